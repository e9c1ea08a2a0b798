/-! THE LAW'S OWN METHODS, 2 -/

def f_L_make (od : Nat → Int64) (tn : Int32) (tf : Nat → Int32) (r : gR) (rc : gR) (qz : Int32) (qn : Int32) (hq : Nat → Option gR) (lq : Nat → Option gR) (lfl : Nat → Int32) (p1 : Int32) (p2 : Int32) (p3 : Int32) : Int32 × gR × (Nat → Option gR) × Int32 × Int32 × (Nat → Int64) :=
    gLet (f_X5_make tn tf r rc qz qn hq lq lfl p1 p2 p3) (fun (q1 : Nat × Int32 × gR × (Nat → Option gR) × Int32 × Int32) =>
    if q1.1 = 0 then
      (0, q1.2.2.1, q1.2.2.2.1, q1.2.2.2.2.1, q1.2.2.2.2.2, (vp_updL od ((0 : Int32).toNatClampNeg) q1.2.1.toInt64))
    else
      (1, q1.2.2.1, q1.2.2.2.1, q1.2.2.2.2.1, q1.2.2.2.2.2, od))
theorem f_L_make_s (od : Nat → Int64) (tn : Int32) (tf : Nat → Int32) (r : gR) (rc : gR) (qz : Int32) (qn : Int32) (hq : Nat → Option gR) (lq : Nat → Option gR) (lfl : Nat → Int32) (p1 : Int32) (p2 : Int32) (p3 : Int32) : f_L_make od tn tf r rc qz qn hq lq lfl p1 p2 p3 =
    (gLet (f_X5_make tn tf r rc qz qn hq lq lfl p1 p2 p3) (fun (q1 : Nat × Int32 × gR × (Nat → Option gR) × Int32 × Int32) =>
    if q1.1 = 0 then
      (0, q1.2.2.1, q1.2.2.2.1, q1.2.2.2.2.1, q1.2.2.2.2.2, (vp_updL od ((0 : Int32).toNatClampNeg) q1.2.1.toInt64))
    else
      (1, q1.2.2.1, q1.2.2.2.1, q1.2.2.2.2.1, q1.2.2.2.2.2, od))) := rfl
theorem hd_L_make : yL_make.cls ≠ "java/lang/invoke/MethodHandle" ∧ yL_make.cls ≠ "java/lang/invoke/VarHandle" ∧ (parseMethodDescriptor yL_make.desc).map (fun d => d.parameters.length) = some 5 := by decide +kernel
set_option maxHeartbeats 4000000 in
set_option maxRecDepth 100000 in
theorem c_L_make (l : Launch) (hst : l.stackTraces = false) (D : va_G) (y : Nat → ClassId) (a0 a1 a2 a3 a4 a5 a6 a7 a8 a9 a10 a11 a12 a13 a14 : Nat) (ga gb : Nat → Nat × Nat × Nat) (zh : Nat) (od : Nat → Int64) (tn : Int32) (tf : Nat → Int32) (r : gR) (rc : gR) (qz : Int32) (qn : Int32) (hq : Nat → Option gR) (lq : Nat → Option gR) (lfl : Nat → Int32) (p1 : Int32) (p2 : Int32) (p3 : Int32) (hh : 0 ≤ qn.toInt ∧ qn.toInt < (14 : Nat)) (ho : okC r) : Met l yL_make wsL_make ({ frames := 7, cells := 3, slots := 80, locals := 105 }) (lP D y [.ref a1, .int p1, .int p2, .int p3, .ref a0] zh ((a0, .inl (y 4, 1, .inr (.inl od))) :: (a1, .inr (4, [.ref a2, .ref a3, .ref a4, .ref a5, .ref a6])) :: (a2, .inr (3, [.ref a7, .int tn])) :: (a7, .inl (y 1, 120, .inl tf)) :: (a3, soF a8 a9 r) :: (a8, soV y r) :: (a9, soW y r) :: (a4, soF a10 a11 rc) :: (a10, soV y rc) :: (a11, soW y rc) :: (a5, .inr (0, [.ref a12, .int qz, .int qn])) :: (a12, .inl (y 3, 14, .inr (.inr (.inr (.inr (gRf ga hq)))))) :: (a6, .inr (1, [.ref a13, .ref a14])) :: (a13, .inl (y 3, 2, .inr (.inr (.inr (.inr (gRf gb lq)))))) :: (a14, .inl (y 2, 2, .inl lfl)) :: gTail y ga gb hq lq)) (va_Qi (fun (v : Int32) (u : gR × (Nat → Option gR) × Int32 × Int32 × (Nat → Int64)) => f_L_make od tn tf r rc qz qn hq lq lfl p1 p2 p3 = (v, u)) (fun (u : gR × (Nat → Option gR) × Int32 × Int32 × (Nat → Int64)) t => ∃ (g1 g2 : Nat → Nat × Nat × Nat), va_P D vwCl ((a0, .inl (y 4, 1, .inr (.inl u.2.2.2.2))) :: (a1, .inr (4, [.ref a2, .ref a3, .ref a4, .ref a5, .ref a6])) :: (a2, .inr (3, [.ref a7, .int tn])) :: (a7, .inl (y 1, 120, .inl tf)) :: (a3, soF a8 a9 u.1) :: (a8, soV y u.1) :: (a9, soW y u.1) :: (a4, soF a10 a11 rc) :: (a10, soV y rc) :: (a11, soW y rc) :: (a5, .inr (0, [.ref a12, .int u.2.2.1, .int u.2.2.2.1])) :: (a12, .inl (y 3, 14, .inr (.inr (.inr (.inr (gRf g1 u.2.1)))))) :: (a6, .inr (1, [.ref a13, .ref a14])) :: (a13, .inl (y 3, 2, .inr (.inr (.inr (.inr (gRf g2 lq)))))) :: (a14, .inl (y 2, 2, .inl lfl)) :: gTail y g1 g2 u.2.1 lq) t.heap ∧ va_D (va_A ((a0, .inl (y 4, 1, .inr (.inl od))) :: (a1, .inr (4, [.ref a2, .ref a3, .ref a4, .ref a5, .ref a6])) :: (a2, .inr (3, [.ref a7, .int tn])) :: (a7, .inl (y 1, 120, .inl tf)) :: (a3, soF a8 a9 r) :: (a8, soV y r) :: (a9, soW y r) :: (a4, soF a10 a11 rc) :: (a10, soV y rc) :: (a11, soW y rc) :: (a5, .inr (0, [.ref a12, .int qz, .int qn])) :: (a12, .inl (y 3, 14, .inr (.inr (.inr (.inr (gRf ga hq)))))) :: (a6, .inr (1, [.ref a13, .ref a14])) :: (a13, .inl (y 3, 2, .inr (.inr (.inr (.inr (gRf gb lq)))))) :: (a14, .inl (y 2, 2, .inl lfl)) :: gTail y ga gb hq lq) zh) ((a0, .inl (y 4, 1, .inr (.inl u.2.2.2.2))) :: (a1, .inr (4, [.ref a2, .ref a3, .ref a4, .ref a5, .ref a6])) :: (a2, .inr (3, [.ref a7, .int tn])) :: (a7, .inl (y 1, 120, .inl tf)) :: (a3, soF a8 a9 u.1) :: (a8, soV y u.1) :: (a9, soW y u.1) :: (a4, soF a10 a11 rc) :: (a10, soV y rc) :: (a11, soW y rc) :: (a5, .inr (0, [.ref a12, .int u.2.2.1, .int u.2.2.2.1])) :: (a12, .inl (y 3, 14, .inr (.inr (.inr (.inr (gRf g1 u.2.1)))))) :: (a6, .inr (1, [.ref a13, .ref a14])) :: (a13, .inl (y 3, 2, .inr (.inr (.inr (.inr (gRf g2 lq)))))) :: (a14, .inl (y 2, 2, .inl lfl)) :: gTail y g1 g2 u.2.1 lq)) (va_A ((a0, .inl (y 4, 1, .inr (.inl od))) :: (a1, .inr (4, [.ref a2, .ref a3, .ref a4, .ref a5, .ref a6])) :: (a2, .inr (3, [.ref a7, .int tn])) :: (a7, .inl (y 1, 120, .inl tf)) :: (a3, soF a8 a9 r) :: (a8, soV y r) :: (a9, soW y r) :: (a4, soF a10 a11 rc) :: (a10, soV y rc) :: (a11, soW y rc) :: (a5, .inr (0, [.ref a12, .int qz, .int qn])) :: (a12, .inl (y 3, 14, .inr (.inr (.inr (.inr (gRf ga hq)))))) :: (a6, .inr (1, [.ref a13, .ref a14])) :: (a13, .inl (y 3, 2, .inr (.inr (.inr (.inr (gRf gb lq)))))) :: (a14, .inl (y 2, 2, .inl lfl)) :: gTail y ga gb hq lq) zh)) 3 80 (va_A ((a0, .inl (y 4, 1, .inr (.inl od))) :: (a1, .inr (4, [.ref a2, .ref a3, .ref a4, .ref a5, .ref a6])) :: (a2, .inr (3, [.ref a7, .int tn])) :: (a7, .inl (y 1, 120, .inl tf)) :: (a3, soF a8 a9 r) :: (a8, soV y r) :: (a9, soW y r) :: (a4, soF a10 a11 rc) :: (a10, soV y rc) :: (a11, soW y rc) :: (a5, .inr (0, [.ref a12, .int qz, .int qn])) :: (a12, .inl (y 3, 14, .inr (.inr (.inr (.inr (gRf ga hq)))))) :: (a6, .inr (1, [.ref a13, .ref a14])) :: (a13, .inl (y 3, 2, .inr (.inr (.inr (.inr (gRf gb lq)))))) :: (a14, .inl (y 2, 2, .inl lfl)) :: gTail y ga gb hq lq) zh) := by
  refine xL_of (vx_ofWH (cc := cL_make) (maxL := 6) (ret := (some .int)) (hh := [(0, 12, 15, 13)]) (by decide) rfl ?_)
  intro p e s m args below meth c s₁ B hml hv
  obtain ⟨⟨⟨rfl, hsz, hP, hE, hD⟩, hXE, hXZ⟩, hLN⟩ := hv
  have hx := B.exec
  have hb := B.bytes
  have hr := B.returns
  have hts := atoms_spec (ws := wsL_make) B.pre
  have hown : s.vm.findClass RL = some m.cls := findClass_of_methodNamed B.named
  have hlocks := B.notSynchronized
  have htab := vx_table (x := yL_make) B (hts _ List.mem_cons_self)
  have w_0 := hts (.classLink RL 13 "java/lang/IllegalArgumentException") (List.mem_cons_of_mem _ (List.mem_append_left _ (List.mem_append_left _ (List.mem_append_left _ (List.mem_append_left _ (List.mem_append_left _ (List.mem_of_getElem? (i := 0) rfl)))))))
  subst hsz
  have hD := hD.self (sz := s.heap.size)
  generalize hAe : va_A ((a0, .inl (y 4, 1, .inr (.inl od))) :: (a1, .inr (4, [.ref a2, .ref a3, .ref a4, .ref a5, .ref a6])) :: (a2, .inr (3, [.ref a7, .int tn])) :: (a7, .inl (y 1, 120, .inl tf)) :: (a3, soF a8 a9 r) :: (a8, soV y r) :: (a9, soW y r) :: (a4, soF a10 a11 rc) :: (a10, soV y rc) :: (a11, soW y rc) :: (a5, .inr (0, [.ref a12, .int qz, .int qn])) :: (a12, .inl (y 3, 14, .inr (.inr (.inr (.inr (gRf ga hq)))))) :: (a6, .inr (1, [.ref a13, .ref a14])) :: (a13, .inl (y 3, 2, .inr (.inr (.inr (.inr (gRf gb lq)))))) :: (a14, .inl (y 2, 2, .inl lfl)) :: gTail y ga gb hq lq) s.heap.size = A at hD hXZ ⊢
  have hA : ∀ q : Nat, s.heap.size ≤ q → A q := fun q h => by rw [← hAe]; exact Or.inr h
  have hS : va_S A s.heap s.heap [] := va_S.rf
  have hl := lv_entry ([.ref a1, .int p1, .int p2, .int p3, .ref a0]) (n := 6) (Nat.le_of_ble_eq_true rfl)
  rw [lg_entry_eq]
  generalize (lg_sl ([.ref a1, .int p1, .int p2, .int p3, .ref a0]) ++ List.replicate (6 - (lg_sl ([.ref a1, .int p1, .int p2, .int p3, .ref a0])).length) Slot.unset).toArray = ls at hl ⊢
  have hl : lv_has ls 6 [(0, .ref a1), (1, .int p1), (2, .int p2), (3, .int p3), (4, .ref a0)] := hl
  have hF := f_L_make_s od tn tf r rc qz qn hq lq lfl p1 p2 p3
  obtain ⟨T, hT⟩ : ∃ T : va_W, gTail y ga gb hq lq = T := ⟨_, rfl⟩
  rw [hT] at hP hD
  refine lv_aload hx hb dL_make_0 (lv_at hl 4 rfl) ?_
  refine lv_iconst (v := 0) hx hb dL_make_2 (by decide) ?_
  refine lv_aload_n hx hb dL_make_3 rfl (lv_at hl 0 rfl) ?_
  refine lv_iload_n hx hb dL_make_4 rfl (lv_at hl 1 rfl) ?_
  refine lv_iload_n hx hb dL_make_5 rfl (lv_at hl 2 rfl) ?_
  refine lv_iload_n hx hb dL_make_6 rfl (lv_at hl 3 rfl) ?_
  rw [← hT] at hP hD
  obtain ⟨q1, eq1⟩ : ∃ z : Nat × Int32 × gR × (Nat → Option gR) × Int32 × Int32, f_X5_make tn tf r rc qz qn hq lq lfl p1 p2 p3 = z := ⟨_, rfl⟩
  have hF := hF.trans (gLet_e eq1)
  refine xq_callEi (ex := [(a0, .inl (y 4, 1, .inr (.inl od)))]) (vx_runV (As := [.int p1, .int p2, .int p3]) (rest := [.int 0, .ref a0]) ⟨hx, hb, hml, hown, hts⟩ (c_X5_make l hst D y a1 a2 a3 a4 a5 a6 a7 a8 a9 a10 a11 a12 a13 a14 ga gb s.heap.size tn tf r rc qz qn hq lq lfl p1 p2 p3 hh ho) (cwV 3 hts gL_make_X5_make rfl rfl rfl hd_X5_make ⟨Nat.le_of_ble_eq_true rfl, Nat.le_of_ble_eq_true rfl⟩) (xV (q := (RX5, TX5, 5)) hE hXE hXZ hS hA (xa_tlP hP) (xa_tlD hD) 0 rfl rfl) rfl rfl hl.1 rfl (lv_room (Nat.le_of_ble_eq_true rfl)) dL_make_7 ⟨Nat.le_of_ble_eq_true rfl, Nat.le_of_ble_eq_true rfl⟩) hP hD hS hA (fun E5 ce6 a97 u3 ga8 gb9 H locs h4 hP hD hS h4a h4b h4c => ?_) (fun v2 u3 ga8 gb9 H locs h4 hP hD hS => ?_)
  · have h4q : q1.1 = xc E5 := by rw [← eq1, h4.1]
    obtain rfl : q1.2.2 = u3 := by rw [← eq1, h4.1]
    have hP : va_P D vwCl ((a0, .inl (y 4, 1, .inr (.inl od))) :: (a1, .inr (4, [.ref a2, .ref a3, .ref a4, .ref a5, .ref a6])) :: (a2, .inr (3, [.ref a7, .int tn])) :: (a7, .inl (y 1, 120, .inl tf)) :: (a3, soF a8 a9 q1.2.2.1) :: (a8, soV y q1.2.2.1) :: (a9, soW y q1.2.2.1) :: (a4, soF a10 a11 rc) :: (a10, soV y rc) :: (a11, soW y rc) :: (a5, .inr (0, [.ref a12, .int q1.2.2.2.2.1, .int q1.2.2.2.2.2])) :: (a12, .inl (y 3, 14, .inr (.inr (.inr (.inr (gRf ga8 q1.2.2.2.1)))))) :: (a6, .inr (1, [.ref a13, .ref a14])) :: (a13, .inl (y 3, 2, .inr (.inr (.inr (.inr (gRf gb9 lq)))))) :: (a14, .inl (y 2, 2, .inl lfl)) :: gTail y ga8 gb9 q1.2.2.2.1 lq) H := hP
    have hD : va_D A ((a0, .inl (y 4, 1, .inr (.inl od))) :: (a1, .inr (4, [.ref a2, .ref a3, .ref a4, .ref a5, .ref a6])) :: (a2, .inr (3, [.ref a7, .int tn])) :: (a7, .inl (y 1, 120, .inl tf)) :: (a3, soF a8 a9 q1.2.2.1) :: (a8, soV y q1.2.2.1) :: (a9, soW y q1.2.2.1) :: (a4, soF a10 a11 rc) :: (a10, soV y rc) :: (a11, soW y rc) :: (a5, .inr (0, [.ref a12, .int q1.2.2.2.2.1, .int q1.2.2.2.2.2])) :: (a12, .inl (y 3, 14, .inr (.inr (.inr (.inr (gRf ga8 q1.2.2.2.1)))))) :: (a6, .inr (1, [.ref a13, .ref a14])) :: (a13, .inl (y 3, 2, .inr (.inr (.inr (.inr (gRf gb9 lq)))))) :: (a14, .inl (y 2, 2, .inl lfl)) :: gTail y ga8 gb9 q1.2.2.2.1 lq) := hD
    obtain ⟨T10, hT10⟩ : ∃ T : va_W, gTail y ga8 gb9 q1.2.2.2.1 lq = T := ⟨_, rfl⟩
    rw [hT10] at hP hD
    rcases xc_E h4.2 with rfl | rfl | rfl
    · rw [xc_IA] at h4q
      have hF := hF.trans (if_neg (show ¬ q1.1 = 0 by rw [h4q]; decide))
      refine vx_catch hown (tableOf []) ⟨0, 12, 15, 13⟩ (tableOf []) (htab.trans rfl) (fun z hz => nomatch hz) (by decide) (by decide) w_0 (hXE.1.1.1.use rfl) h4a h4b h4c ?_
      refine W.eq (g2 := F0 m 15 ls [.ref a97]) rfl ?_
      refine lv_astore (lv' := [(5, .ref a97), (0, .ref a1), (1, .int p1), (2, .int p2), (3, .int p3), (4, .ref a0)]) hx hb dL_make_15 hl (by decide) rfl (fun ls hl => ?_)
      refine lv_iconst (v := 1) hx hb dL_make_17 (by decide) ?_
      refine W.widen (k := 3) (n := 80) (Nat.le_of_ble_eq_true rfl) (Nat.le_of_ble_eq_true rfl) ?_
      refine vx_ret ?_
      rw [← hT10] at hP hD
      exact W.iret (v := 1) hx hb hr (fun t ht hW => ⟨⟨1, ⟨q1.2.2.1, q1.2.2.2.1, q1.2.2.2.2.1, q1.2.2.2.2.2, od⟩, rfl, hF, ⟨ga8, gb9, by rw [ht]; exact hP, hD⟩⟩, hS.F ht⟩) hS.2.2 dL_make_18
    · rw [xc_IS] at h4q
      have hc := cd_X5_make tn tf r rc qz qn hq lq lfl p1 p2 p3
      rw [eq1, h4q] at hc
      exact absurd hc (by decide)
    · rw [xc_IO] at h4q
      have hc := cd_X5_make tn tf r rc qz qn hq lq lfl p1 p2 p3
      rw [eq1, h4q] at hc
      exact absurd hc (by decide)
  · have h4q : q1.1 = 0 := by rw [← eq1, h4]
    obtain ⟨rfl, rfl⟩ : q1.2.1 = v2 ∧ q1.2.2 = u3 := ⟨by rw [← eq1, h4], by rw [← eq1, h4]⟩
    have hP : va_P D vwCl ((a0, .inl (y 4, 1, .inr (.inl od))) :: (a1, .inr (4, [.ref a2, .ref a3, .ref a4, .ref a5, .ref a6])) :: (a2, .inr (3, [.ref a7, .int tn])) :: (a7, .inl (y 1, 120, .inl tf)) :: (a3, soF a8 a9 q1.2.2.1) :: (a8, soV y q1.2.2.1) :: (a9, soW y q1.2.2.1) :: (a4, soF a10 a11 rc) :: (a10, soV y rc) :: (a11, soW y rc) :: (a5, .inr (0, [.ref a12, .int q1.2.2.2.2.1, .int q1.2.2.2.2.2])) :: (a12, .inl (y 3, 14, .inr (.inr (.inr (.inr (gRf ga8 q1.2.2.2.1)))))) :: (a6, .inr (1, [.ref a13, .ref a14])) :: (a13, .inl (y 3, 2, .inr (.inr (.inr (.inr (gRf gb9 lq)))))) :: (a14, .inl (y 2, 2, .inl lfl)) :: gTail y ga8 gb9 q1.2.2.2.1 lq) H := hP
    have hD : va_D A ((a0, .inl (y 4, 1, .inr (.inl od))) :: (a1, .inr (4, [.ref a2, .ref a3, .ref a4, .ref a5, .ref a6])) :: (a2, .inr (3, [.ref a7, .int tn])) :: (a7, .inl (y 1, 120, .inl tf)) :: (a3, soF a8 a9 q1.2.2.1) :: (a8, soV y q1.2.2.1) :: (a9, soW y q1.2.2.1) :: (a4, soF a10 a11 rc) :: (a10, soV y rc) :: (a11, soW y rc) :: (a5, .inr (0, [.ref a12, .int q1.2.2.2.2.1, .int q1.2.2.2.2.2])) :: (a12, .inl (y 3, 14, .inr (.inr (.inr (.inr (gRf ga8 q1.2.2.2.1)))))) :: (a6, .inr (1, [.ref a13, .ref a14])) :: (a13, .inl (y 3, 2, .inr (.inr (.inr (.inr (gRf gb9 lq)))))) :: (a14, .inl (y 2, 2, .inl lfl)) :: gTail y ga8 gb9 q1.2.2.2.1 lq) := hD
    obtain ⟨T11, hT11⟩ : ∃ T : va_W, gTail y ga8 gb9 q1.2.2.2.1 lq = T := ⟨_, rfl⟩
    rw [hT11] at hP hD
    have hF := hF.trans (if_pos h4q)
    refine lv_i2l (v := q1.2.1.toInt64) hx hb dL_make_10 rfl ?_
    refine va_last hx hb hE.1 hP hD hS 0 4 rfl rfl (xin (by decide)) dL_make_11 (fun H locs hP hD hS => ?_)
    have hP : va_P D vwCl ((a0, .inl (y 4, 1, .inr (.inl (vp_updL od ((0 : Int32).toNatClampNeg) q1.2.1.toInt64)))) :: (a1, .inr (4, [.ref a2, .ref a3, .ref a4, .ref a5, .ref a6])) :: (a2, .inr (3, [.ref a7, .int tn])) :: (a7, .inl (y 1, 120, .inl tf)) :: (a3, soF a8 a9 q1.2.2.1) :: (a8, soV y q1.2.2.1) :: (a9, soW y q1.2.2.1) :: (a4, soF a10 a11 rc) :: (a10, soV y rc) :: (a11, soW y rc) :: (a5, .inr (0, [.ref a12, .int q1.2.2.2.2.1, .int q1.2.2.2.2.2])) :: (a12, .inl (y 3, 14, .inr (.inr (.inr (.inr (gRf ga8 q1.2.2.2.1)))))) :: (a6, .inr (1, [.ref a13, .ref a14])) :: (a13, .inl (y 3, 2, .inr (.inr (.inr (.inr (gRf gb9 lq)))))) :: (a14, .inl (y 2, 2, .inl lfl)) :: T11) H := hP
    have hD : va_D A ((a0, .inl (y 4, 1, .inr (.inl (vp_updL od ((0 : Int32).toNatClampNeg) q1.2.1.toInt64)))) :: (a1, .inr (4, [.ref a2, .ref a3, .ref a4, .ref a5, .ref a6])) :: (a2, .inr (3, [.ref a7, .int tn])) :: (a7, .inl (y 1, 120, .inl tf)) :: (a3, soF a8 a9 q1.2.2.1) :: (a8, soV y q1.2.2.1) :: (a9, soW y q1.2.2.1) :: (a4, soF a10 a11 rc) :: (a10, soV y rc) :: (a11, soW y rc) :: (a5, .inr (0, [.ref a12, .int q1.2.2.2.2.1, .int q1.2.2.2.2.2])) :: (a12, .inl (y 3, 14, .inr (.inr (.inr (.inr (gRf ga8 q1.2.2.2.1)))))) :: (a6, .inr (1, [.ref a13, .ref a14])) :: (a13, .inl (y 3, 2, .inr (.inr (.inr (.inr (gRf gb9 lq)))))) :: (a14, .inl (y 2, 2, .inl lfl)) :: T11) := hD
    refine lv_goto (tgt := 19) hx hb dL_make_12 (by decide) ?_
    refine lv_iconst (v := 0) hx hb dL_make_19 (by decide) ?_
    refine W.widen (k := 3) (n := 80) (Nat.le_of_ble_eq_true rfl) (Nat.le_of_ble_eq_true rfl) ?_
    refine vx_ret ?_
    rw [← hT11] at hP hD
    exact W.iret (v := 0) hx hb hr (fun t ht hW => ⟨⟨0, ⟨q1.2.2.1, q1.2.2.2.1, q1.2.2.2.2.1, q1.2.2.2.2.2, (vp_updL od ((0 : Int32).toNatClampNeg) q1.2.1.toInt64)⟩, rfl, hF, ⟨ga8, gb9, by rw [ht]; exact hP, hD⟩⟩, hS.F ht⟩) hS.2.2 dL_make_20

def f_L_write (od : Nat → Int64) (tn : Int32) (tf : Nat → Int32) (r : gR) (rc : gR) (qz : Int32) (qn : Int32) (hq : Nat → Option gR) (lq : Nat → Option gR) (lfl : Nat → Int32) (p1 : Int32) (p2 : Int32) : Int32 × gR × (Nat → Option gR) × Int32 × Int32 × (Nat → Int64) :=
    gLet (f_X5_write tn tf r rc qz qn hq lq lfl p1 p2) (fun (q1 : Nat × Int32 × gR × (Nat → Option gR) × Int32 × Int32) =>
    if q1.1 = 0 then
      (0, q1.2.2.1, q1.2.2.2.1, q1.2.2.2.2.1, q1.2.2.2.2.2, (vp_updL od ((0 : Int32).toNatClampNeg) q1.2.1.toInt64))
    else
      if q1.1 = 3 then
        (1, q1.2.2.1, q1.2.2.2.1, q1.2.2.2.2.1, q1.2.2.2.2.2, od)
      else
        if q1.1 = 1 then
          (2, q1.2.2.1, q1.2.2.2.1, q1.2.2.2.2.1, q1.2.2.2.2.2, od)
        else
          (3, q1.2.2.1, q1.2.2.2.1, q1.2.2.2.2.1, q1.2.2.2.2.2, od))
theorem f_L_write_s (od : Nat → Int64) (tn : Int32) (tf : Nat → Int32) (r : gR) (rc : gR) (qz : Int32) (qn : Int32) (hq : Nat → Option gR) (lq : Nat → Option gR) (lfl : Nat → Int32) (p1 : Int32) (p2 : Int32) : f_L_write od tn tf r rc qz qn hq lq lfl p1 p2 =
    (gLet (f_X5_write tn tf r rc qz qn hq lq lfl p1 p2) (fun (q1 : Nat × Int32 × gR × (Nat → Option gR) × Int32 × Int32) =>
    if q1.1 = 0 then
      (0, q1.2.2.1, q1.2.2.2.1, q1.2.2.2.2.1, q1.2.2.2.2.2, (vp_updL od ((0 : Int32).toNatClampNeg) q1.2.1.toInt64))
    else
      if q1.1 = 3 then
        (1, q1.2.2.1, q1.2.2.2.1, q1.2.2.2.2.1, q1.2.2.2.2.2, od)
      else
        if q1.1 = 1 then
          (2, q1.2.2.1, q1.2.2.2.1, q1.2.2.2.2.1, q1.2.2.2.2.2, od)
        else
          (3, q1.2.2.1, q1.2.2.2.1, q1.2.2.2.2.1, q1.2.2.2.2.2, od))) := rfl
theorem hd_L_write : yL_write.cls ≠ "java/lang/invoke/MethodHandle" ∧ yL_write.cls ≠ "java/lang/invoke/VarHandle" ∧ (parseMethodDescriptor yL_write.desc).map (fun d => d.parameters.length) = some 4 := by decide +kernel
set_option maxHeartbeats 4000000 in
set_option maxRecDepth 100000 in
theorem c_L_write (l : Launch) (hst : l.stackTraces = false) (D : va_G) (y : Nat → ClassId) (a0 a1 a2 a3 a4 a5 a6 a7 a8 a9 a10 a11 a12 a13 a14 : Nat) (ga gb : Nat → Nat × Nat × Nat) (zh : Nat) (od : Nat → Int64) (tn : Int32) (tf : Nat → Int32) (r : gR) (rc : gR) (qz : Int32) (qn : Int32) (hq : Nat → Option gR) (lq : Nat → Option gR) (lfl : Nat → Int32) (p1 : Int32) (p2 : Int32) (hh : 0 ≤ qn.toInt ∧ qn.toInt < (14 : Nat)) (ho : okC r) : Met l yL_write wsL_write ({ frames := 8, cells := 5, slots := 92, locals := 125 }) (lP D y [.ref a1, .int p1, .int p2, .ref a0] zh ((a0, .inl (y 4, 1, .inr (.inl od))) :: (a1, .inr (4, [.ref a2, .ref a3, .ref a4, .ref a5, .ref a6])) :: (a2, .inr (3, [.ref a7, .int tn])) :: (a7, .inl (y 1, 120, .inl tf)) :: (a3, soF a8 a9 r) :: (a8, soV y r) :: (a9, soW y r) :: (a4, soF a10 a11 rc) :: (a10, soV y rc) :: (a11, soW y rc) :: (a5, .inr (0, [.ref a12, .int qz, .int qn])) :: (a12, .inl (y 3, 14, .inr (.inr (.inr (.inr (gRf ga hq)))))) :: (a6, .inr (1, [.ref a13, .ref a14])) :: (a13, .inl (y 3, 2, .inr (.inr (.inr (.inr (gRf gb lq)))))) :: (a14, .inl (y 2, 2, .inl lfl)) :: gTail y ga gb hq lq)) (va_Qi (fun (v : Int32) (u : gR × (Nat → Option gR) × Int32 × Int32 × (Nat → Int64)) => f_L_write od tn tf r rc qz qn hq lq lfl p1 p2 = (v, u)) (fun (u : gR × (Nat → Option gR) × Int32 × Int32 × (Nat → Int64)) t => ∃ (g1 g2 : Nat → Nat × Nat × Nat), va_P D vwCl ((a0, .inl (y 4, 1, .inr (.inl u.2.2.2.2))) :: (a1, .inr (4, [.ref a2, .ref a3, .ref a4, .ref a5, .ref a6])) :: (a2, .inr (3, [.ref a7, .int tn])) :: (a7, .inl (y 1, 120, .inl tf)) :: (a3, soF a8 a9 u.1) :: (a8, soV y u.1) :: (a9, soW y u.1) :: (a4, soF a10 a11 rc) :: (a10, soV y rc) :: (a11, soW y rc) :: (a5, .inr (0, [.ref a12, .int u.2.2.1, .int u.2.2.2.1])) :: (a12, .inl (y 3, 14, .inr (.inr (.inr (.inr (gRf g1 u.2.1)))))) :: (a6, .inr (1, [.ref a13, .ref a14])) :: (a13, .inl (y 3, 2, .inr (.inr (.inr (.inr (gRf g2 lq)))))) :: (a14, .inl (y 2, 2, .inl lfl)) :: gTail y g1 g2 u.2.1 lq) t.heap ∧ va_D (va_A ((a0, .inl (y 4, 1, .inr (.inl od))) :: (a1, .inr (4, [.ref a2, .ref a3, .ref a4, .ref a5, .ref a6])) :: (a2, .inr (3, [.ref a7, .int tn])) :: (a7, .inl (y 1, 120, .inl tf)) :: (a3, soF a8 a9 r) :: (a8, soV y r) :: (a9, soW y r) :: (a4, soF a10 a11 rc) :: (a10, soV y rc) :: (a11, soW y rc) :: (a5, .inr (0, [.ref a12, .int qz, .int qn])) :: (a12, .inl (y 3, 14, .inr (.inr (.inr (.inr (gRf ga hq)))))) :: (a6, .inr (1, [.ref a13, .ref a14])) :: (a13, .inl (y 3, 2, .inr (.inr (.inr (.inr (gRf gb lq)))))) :: (a14, .inl (y 2, 2, .inl lfl)) :: gTail y ga gb hq lq) zh) ((a0, .inl (y 4, 1, .inr (.inl u.2.2.2.2))) :: (a1, .inr (4, [.ref a2, .ref a3, .ref a4, .ref a5, .ref a6])) :: (a2, .inr (3, [.ref a7, .int tn])) :: (a7, .inl (y 1, 120, .inl tf)) :: (a3, soF a8 a9 u.1) :: (a8, soV y u.1) :: (a9, soW y u.1) :: (a4, soF a10 a11 rc) :: (a10, soV y rc) :: (a11, soW y rc) :: (a5, .inr (0, [.ref a12, .int u.2.2.1, .int u.2.2.2.1])) :: (a12, .inl (y 3, 14, .inr (.inr (.inr (.inr (gRf g1 u.2.1)))))) :: (a6, .inr (1, [.ref a13, .ref a14])) :: (a13, .inl (y 3, 2, .inr (.inr (.inr (.inr (gRf g2 lq)))))) :: (a14, .inl (y 2, 2, .inl lfl)) :: gTail y g1 g2 u.2.1 lq)) (va_A ((a0, .inl (y 4, 1, .inr (.inl od))) :: (a1, .inr (4, [.ref a2, .ref a3, .ref a4, .ref a5, .ref a6])) :: (a2, .inr (3, [.ref a7, .int tn])) :: (a7, .inl (y 1, 120, .inl tf)) :: (a3, soF a8 a9 r) :: (a8, soV y r) :: (a9, soW y r) :: (a4, soF a10 a11 rc) :: (a10, soV y rc) :: (a11, soW y rc) :: (a5, .inr (0, [.ref a12, .int qz, .int qn])) :: (a12, .inl (y 3, 14, .inr (.inr (.inr (.inr (gRf ga hq)))))) :: (a6, .inr (1, [.ref a13, .ref a14])) :: (a13, .inl (y 3, 2, .inr (.inr (.inr (.inr (gRf gb lq)))))) :: (a14, .inl (y 2, 2, .inl lfl)) :: gTail y ga gb hq lq) zh)) 5 92 (va_A ((a0, .inl (y 4, 1, .inr (.inl od))) :: (a1, .inr (4, [.ref a2, .ref a3, .ref a4, .ref a5, .ref a6])) :: (a2, .inr (3, [.ref a7, .int tn])) :: (a7, .inl (y 1, 120, .inl tf)) :: (a3, soF a8 a9 r) :: (a8, soV y r) :: (a9, soW y r) :: (a4, soF a10 a11 rc) :: (a10, soV y rc) :: (a11, soW y rc) :: (a5, .inr (0, [.ref a12, .int qz, .int qn])) :: (a12, .inl (y 3, 14, .inr (.inr (.inr (.inr (gRf ga hq)))))) :: (a6, .inr (1, [.ref a13, .ref a14])) :: (a13, .inl (y 3, 2, .inr (.inr (.inr (.inr (gRf gb lq)))))) :: (a14, .inl (y 2, 2, .inl lfl)) :: gTail y ga gb hq lq) zh) := by
  refine xL_of (vx_ofWH (cc := cL_write) (maxL := 5) (ret := (some .int)) (hh := [(0, 10, 13, 27), (0, 10, 17, 13), (0, 10, 21, 15)]) (by decide) rfl ?_)
  intro p e s m args below meth c s₁ B hml hv
  obtain ⟨⟨⟨rfl, hsz, hP, hE, hD⟩, hXE, hXZ⟩, hLN⟩ := hv
  have hx := B.exec
  have hb := B.bytes
  have hr := B.returns
  have hts := atoms_spec (ws := wsL_write) B.pre
  have hown : s.vm.findClass RL = some m.cls := findClass_of_methodNamed B.named
  have hlocks := B.notSynchronized
  have htab := vx_table (x := yL_write) B (hts _ List.mem_cons_self)
  have w_0 := hts (.classLink RL 27 "java/lang/IndexOutOfBoundsException") (List.mem_cons_of_mem _ (List.mem_append_left _ (List.mem_append_left _ (List.mem_append_left _ (List.mem_append_left _ (List.mem_append_left _ (List.mem_append_left _ (List.mem_append_left _ (List.mem_of_getElem? (i := 0) rfl)))))))))
  have w_1 := hts (.classLink RL 13 "java/lang/IllegalArgumentException") (List.mem_cons_of_mem _ (List.mem_append_left _ (List.mem_append_left _ (List.mem_append_left _ (List.mem_append_left _ (List.mem_append_left _ (List.mem_append_left _ (List.mem_append_left _ (List.mem_of_getElem? (i := 1) rfl)))))))))
  have w_2 := hts (.classLink RL 15 "java/lang/IllegalStateException") (List.mem_cons_of_mem _ (List.mem_append_left _ (List.mem_append_left _ (List.mem_append_left _ (List.mem_append_left _ (List.mem_append_left _ (List.mem_append_left _ (List.mem_append_left _ (List.mem_of_getElem? (i := 2) rfl)))))))))
  subst hsz
  have hD := hD.self (sz := s.heap.size)
  generalize hAe : va_A ((a0, .inl (y 4, 1, .inr (.inl od))) :: (a1, .inr (4, [.ref a2, .ref a3, .ref a4, .ref a5, .ref a6])) :: (a2, .inr (3, [.ref a7, .int tn])) :: (a7, .inl (y 1, 120, .inl tf)) :: (a3, soF a8 a9 r) :: (a8, soV y r) :: (a9, soW y r) :: (a4, soF a10 a11 rc) :: (a10, soV y rc) :: (a11, soW y rc) :: (a5, .inr (0, [.ref a12, .int qz, .int qn])) :: (a12, .inl (y 3, 14, .inr (.inr (.inr (.inr (gRf ga hq)))))) :: (a6, .inr (1, [.ref a13, .ref a14])) :: (a13, .inl (y 3, 2, .inr (.inr (.inr (.inr (gRf gb lq)))))) :: (a14, .inl (y 2, 2, .inl lfl)) :: gTail y ga gb hq lq) s.heap.size = A at hD hXZ ⊢
  have hA : ∀ q : Nat, s.heap.size ≤ q → A q := fun q h => by rw [← hAe]; exact Or.inr h
  have hS : va_S A s.heap s.heap [] := va_S.rf
  have hl := lv_entry ([.ref a1, .int p1, .int p2, .ref a0]) (n := 5) (Nat.le_of_ble_eq_true rfl)
  rw [lg_entry_eq]
  generalize (lg_sl ([.ref a1, .int p1, .int p2, .ref a0]) ++ List.replicate (5 - (lg_sl ([.ref a1, .int p1, .int p2, .ref a0])).length) Slot.unset).toArray = ls at hl ⊢
  have hl : lv_has ls 5 [(0, .ref a1), (1, .int p1), (2, .int p2), (3, .ref a0)] := hl
  have hF := f_L_write_s od tn tf r rc qz qn hq lq lfl p1 p2
  obtain ⟨T, hT⟩ : ∃ T : va_W, gTail y ga gb hq lq = T := ⟨_, rfl⟩
  rw [hT] at hP hD
  refine lv_aload_n hx hb dL_write_0 rfl (lv_at hl 3 rfl) ?_
  refine lv_iconst (v := 0) hx hb dL_write_1 (by decide) ?_
  refine lv_aload_n hx hb dL_write_2 rfl (lv_at hl 0 rfl) ?_
  refine lv_iload_n hx hb dL_write_3 rfl (lv_at hl 1 rfl) ?_
  refine lv_iload_n hx hb dL_write_4 rfl (lv_at hl 2 rfl) ?_
  rw [← hT] at hP hD
  obtain ⟨q1, eq1⟩ : ∃ z : Nat × Int32 × gR × (Nat → Option gR) × Int32 × Int32, f_X5_write tn tf r rc qz qn hq lq lfl p1 p2 = z := ⟨_, rfl⟩
  have hF := hF.trans (gLet_e eq1)
  refine xq_callEi (ex := [(a0, .inl (y 4, 1, .inr (.inl od)))]) (vx_runV (As := [.int p1, .int p2]) (rest := [.int 0, .ref a0]) ⟨hx, hb, hml, hown, hts⟩ (c_X5_write l hst D y a1 a2 a3 a4 a5 a6 a7 a8 a9 a10 a11 a12 a13 a14 ga gb s.heap.size tn tf r rc qz qn hq lq lfl p1 p2 hh ho) (cwV 2 hts gL_write_X5_write rfl rfl rfl hd_X5_write ⟨Nat.le_of_ble_eq_true rfl, Nat.le_of_ble_eq_true rfl⟩) (xV (q := (RX5, TX5, 5)) hE hXE hXZ hS hA (xa_tlP hP) (xa_tlD hD) 0 rfl rfl) rfl rfl hl.1 rfl (lv_room (Nat.le_of_ble_eq_true rfl)) dL_write_5 ⟨Nat.le_of_ble_eq_true rfl, Nat.le_of_ble_eq_true rfl⟩) hP hD hS hA (fun E5 ce6 a97 u3 ga8 gb9 H locs h4 hP hD hS h4a h4b h4c => ?_) (fun v2 u3 ga8 gb9 H locs h4 hP hD hS => ?_)
  · have h4q : q1.1 = xc E5 := by rw [← eq1, h4.1]
    obtain rfl : q1.2.2 = u3 := by rw [← eq1, h4.1]
    have hP : va_P D vwCl ((a0, .inl (y 4, 1, .inr (.inl od))) :: (a1, .inr (4, [.ref a2, .ref a3, .ref a4, .ref a5, .ref a6])) :: (a2, .inr (3, [.ref a7, .int tn])) :: (a7, .inl (y 1, 120, .inl tf)) :: (a3, soF a8 a9 q1.2.2.1) :: (a8, soV y q1.2.2.1) :: (a9, soW y q1.2.2.1) :: (a4, soF a10 a11 rc) :: (a10, soV y rc) :: (a11, soW y rc) :: (a5, .inr (0, [.ref a12, .int q1.2.2.2.2.1, .int q1.2.2.2.2.2])) :: (a12, .inl (y 3, 14, .inr (.inr (.inr (.inr (gRf ga8 q1.2.2.2.1)))))) :: (a6, .inr (1, [.ref a13, .ref a14])) :: (a13, .inl (y 3, 2, .inr (.inr (.inr (.inr (gRf gb9 lq)))))) :: (a14, .inl (y 2, 2, .inl lfl)) :: gTail y ga8 gb9 q1.2.2.2.1 lq) H := hP
    have hD : va_D A ((a0, .inl (y 4, 1, .inr (.inl od))) :: (a1, .inr (4, [.ref a2, .ref a3, .ref a4, .ref a5, .ref a6])) :: (a2, .inr (3, [.ref a7, .int tn])) :: (a7, .inl (y 1, 120, .inl tf)) :: (a3, soF a8 a9 q1.2.2.1) :: (a8, soV y q1.2.2.1) :: (a9, soW y q1.2.2.1) :: (a4, soF a10 a11 rc) :: (a10, soV y rc) :: (a11, soW y rc) :: (a5, .inr (0, [.ref a12, .int q1.2.2.2.2.1, .int q1.2.2.2.2.2])) :: (a12, .inl (y 3, 14, .inr (.inr (.inr (.inr (gRf ga8 q1.2.2.2.1)))))) :: (a6, .inr (1, [.ref a13, .ref a14])) :: (a13, .inl (y 3, 2, .inr (.inr (.inr (.inr (gRf gb9 lq)))))) :: (a14, .inl (y 2, 2, .inl lfl)) :: gTail y ga8 gb9 q1.2.2.2.1 lq) := hD
    obtain ⟨T10, hT10⟩ : ∃ T : va_W, gTail y ga8 gb9 q1.2.2.2.1 lq = T := ⟨_, rfl⟩
    rw [hT10] at hP hD
    rcases xc_E h4.2 with rfl | rfl | rfl
    · rw [xc_IA] at h4q
      have hF := hF.trans (if_neg (show ¬ q1.1 = 0 by rw [h4q]; decide))
      have hF := hF.trans (if_neg (show ¬ q1.1 = 3 by rw [h4q]; decide))
      have hF := hF.trans (if_pos h4q)
      refine vx_catch hown (tableOf [(0, 10, 13, 27)]) ⟨0, 10, 17, 13⟩ (tableOf [(0, 10, 21, 15)]) (htab.trans rfl) (fun z hz => by simp only [tableOf, List.map_cons, List.map_nil, List.mem_cons, List.not_mem_nil, or_false] at hz; rcases hz with rfl; exact Or.inr ⟨by decide, _, w_0, hLN.1.2⟩) (by decide) (by decide) w_1 (hXE.1.1.1.use rfl) h4a h4b h4c ?_
      refine W.eq (g2 := F0 m 17 ls [.ref a97]) rfl ?_
      refine lv_astore (lv' := [(4, .ref a97), (0, .ref a1), (1, .int p1), (2, .int p2), (3, .ref a0)]) hx hb dL_write_17 hl (by decide) rfl (fun ls hl => ?_)
      refine lv_iconst (v := 2) hx hb dL_write_19 (by decide) ?_
      refine W.widen (k := 5) (n := 92) (Nat.le_of_ble_eq_true rfl) (Nat.le_of_ble_eq_true rfl) ?_
      refine vx_ret ?_
      rw [← hT10] at hP hD
      exact W.iret (v := 2) hx hb hr (fun t ht hW => ⟨⟨2, ⟨q1.2.2.1, q1.2.2.2.1, q1.2.2.2.2.1, q1.2.2.2.2.2, od⟩, rfl, hF, ⟨ga8, gb9, by rw [ht]; exact hP, hD⟩⟩, hS.F ht⟩) hS.2.2 dL_write_20
    · rw [xc_IS] at h4q
      have hF := hF.trans (if_neg (show ¬ q1.1 = 0 by rw [h4q]; decide))
      have hF := hF.trans (if_neg (show ¬ q1.1 = 3 by rw [h4q]; decide))
      have hF := hF.trans (if_neg (show ¬ q1.1 = 1 by rw [h4q]; decide))
      refine vx_catch hown (tableOf [(0, 10, 13, 27), (0, 10, 17, 13)]) ⟨0, 10, 21, 15⟩ (tableOf []) (htab.trans rfl) (fun z hz => by
          simp only [tableOf, List.map_cons, List.map_nil, List.mem_cons, List.not_mem_nil, or_false] at hz
          rcases hz with rfl | rfl
          · exact Or.inr ⟨by decide, _, w_0, hLN.2.1.2⟩
          · exact Or.inr ⟨by decide, _, w_1, hLN.2.1.1⟩) (by decide) (by decide) w_2 (hXE.1.1.2.1.use rfl) h4a h4b h4c ?_
      refine W.eq (g2 := F0 m 21 ls [.ref a97]) rfl ?_
      refine lv_astore (lv' := [(4, .ref a97), (0, .ref a1), (1, .int p1), (2, .int p2), (3, .ref a0)]) hx hb dL_write_21 hl (by decide) rfl (fun ls hl => ?_)
      refine lv_iconst (v := 3) hx hb dL_write_23 (by decide) ?_
      refine W.widen (k := 5) (n := 92) (Nat.le_of_ble_eq_true rfl) (Nat.le_of_ble_eq_true rfl) ?_
      refine vx_ret ?_
      rw [← hT10] at hP hD
      exact W.iret (v := 3) hx hb hr (fun t ht hW => ⟨⟨3, ⟨q1.2.2.1, q1.2.2.2.1, q1.2.2.2.2.1, q1.2.2.2.2.2, od⟩, rfl, hF, ⟨ga8, gb9, by rw [ht]; exact hP, hD⟩⟩, hS.F ht⟩) hS.2.2 dL_write_24
    · rw [xc_IO] at h4q
      have hF := hF.trans (if_neg (show ¬ q1.1 = 0 by rw [h4q]; decide))
      have hF := hF.trans (if_pos h4q)
      refine vx_catch hown (tableOf []) ⟨0, 10, 13, 27⟩ (tableOf [(0, 10, 17, 13), (0, 10, 21, 15)]) (htab.trans rfl) (fun z hz => nomatch hz) (by decide) (by decide) w_0 (hXE.1.1.2.2.use rfl) h4a h4b h4c ?_
      refine W.eq (g2 := F0 m 13 ls [.ref a97]) rfl ?_
      refine lv_astore (lv' := [(4, .ref a97), (0, .ref a1), (1, .int p1), (2, .int p2), (3, .ref a0)]) hx hb dL_write_13 hl (by decide) rfl (fun ls hl => ?_)
      refine lv_iconst (v := 1) hx hb dL_write_15 (by decide) ?_
      refine W.widen (k := 5) (n := 92) (Nat.le_of_ble_eq_true rfl) (Nat.le_of_ble_eq_true rfl) ?_
      refine vx_ret ?_
      rw [← hT10] at hP hD
      exact W.iret (v := 1) hx hb hr (fun t ht hW => ⟨⟨1, ⟨q1.2.2.1, q1.2.2.2.1, q1.2.2.2.2.1, q1.2.2.2.2.2, od⟩, rfl, hF, ⟨ga8, gb9, by rw [ht]; exact hP, hD⟩⟩, hS.F ht⟩) hS.2.2 dL_write_16
  · have h4q : q1.1 = 0 := by rw [← eq1, h4]
    obtain ⟨rfl, rfl⟩ : q1.2.1 = v2 ∧ q1.2.2 = u3 := ⟨by rw [← eq1, h4], by rw [← eq1, h4]⟩
    have hP : va_P D vwCl ((a0, .inl (y 4, 1, .inr (.inl od))) :: (a1, .inr (4, [.ref a2, .ref a3, .ref a4, .ref a5, .ref a6])) :: (a2, .inr (3, [.ref a7, .int tn])) :: (a7, .inl (y 1, 120, .inl tf)) :: (a3, soF a8 a9 q1.2.2.1) :: (a8, soV y q1.2.2.1) :: (a9, soW y q1.2.2.1) :: (a4, soF a10 a11 rc) :: (a10, soV y rc) :: (a11, soW y rc) :: (a5, .inr (0, [.ref a12, .int q1.2.2.2.2.1, .int q1.2.2.2.2.2])) :: (a12, .inl (y 3, 14, .inr (.inr (.inr (.inr (gRf ga8 q1.2.2.2.1)))))) :: (a6, .inr (1, [.ref a13, .ref a14])) :: (a13, .inl (y 3, 2, .inr (.inr (.inr (.inr (gRf gb9 lq)))))) :: (a14, .inl (y 2, 2, .inl lfl)) :: gTail y ga8 gb9 q1.2.2.2.1 lq) H := hP
    have hD : va_D A ((a0, .inl (y 4, 1, .inr (.inl od))) :: (a1, .inr (4, [.ref a2, .ref a3, .ref a4, .ref a5, .ref a6])) :: (a2, .inr (3, [.ref a7, .int tn])) :: (a7, .inl (y 1, 120, .inl tf)) :: (a3, soF a8 a9 q1.2.2.1) :: (a8, soV y q1.2.2.1) :: (a9, soW y q1.2.2.1) :: (a4, soF a10 a11 rc) :: (a10, soV y rc) :: (a11, soW y rc) :: (a5, .inr (0, [.ref a12, .int q1.2.2.2.2.1, .int q1.2.2.2.2.2])) :: (a12, .inl (y 3, 14, .inr (.inr (.inr (.inr (gRf ga8 q1.2.2.2.1)))))) :: (a6, .inr (1, [.ref a13, .ref a14])) :: (a13, .inl (y 3, 2, .inr (.inr (.inr (.inr (gRf gb9 lq)))))) :: (a14, .inl (y 2, 2, .inl lfl)) :: gTail y ga8 gb9 q1.2.2.2.1 lq) := hD
    obtain ⟨T11, hT11⟩ : ∃ T : va_W, gTail y ga8 gb9 q1.2.2.2.1 lq = T := ⟨_, rfl⟩
    rw [hT11] at hP hD
    have hF := hF.trans (if_pos h4q)
    refine lv_i2l (v := q1.2.1.toInt64) hx hb dL_write_8 rfl ?_
    refine va_last hx hb hE.1 hP hD hS 0 4 rfl rfl (xin (by decide)) dL_write_9 (fun H locs hP hD hS => ?_)
    have hP : va_P D vwCl ((a0, .inl (y 4, 1, .inr (.inl (vp_updL od ((0 : Int32).toNatClampNeg) q1.2.1.toInt64)))) :: (a1, .inr (4, [.ref a2, .ref a3, .ref a4, .ref a5, .ref a6])) :: (a2, .inr (3, [.ref a7, .int tn])) :: (a7, .inl (y 1, 120, .inl tf)) :: (a3, soF a8 a9 q1.2.2.1) :: (a8, soV y q1.2.2.1) :: (a9, soW y q1.2.2.1) :: (a4, soF a10 a11 rc) :: (a10, soV y rc) :: (a11, soW y rc) :: (a5, .inr (0, [.ref a12, .int q1.2.2.2.2.1, .int q1.2.2.2.2.2])) :: (a12, .inl (y 3, 14, .inr (.inr (.inr (.inr (gRf ga8 q1.2.2.2.1)))))) :: (a6, .inr (1, [.ref a13, .ref a14])) :: (a13, .inl (y 3, 2, .inr (.inr (.inr (.inr (gRf gb9 lq)))))) :: (a14, .inl (y 2, 2, .inl lfl)) :: T11) H := hP
    have hD : va_D A ((a0, .inl (y 4, 1, .inr (.inl (vp_updL od ((0 : Int32).toNatClampNeg) q1.2.1.toInt64)))) :: (a1, .inr (4, [.ref a2, .ref a3, .ref a4, .ref a5, .ref a6])) :: (a2, .inr (3, [.ref a7, .int tn])) :: (a7, .inl (y 1, 120, .inl tf)) :: (a3, soF a8 a9 q1.2.2.1) :: (a8, soV y q1.2.2.1) :: (a9, soW y q1.2.2.1) :: (a4, soF a10 a11 rc) :: (a10, soV y rc) :: (a11, soW y rc) :: (a5, .inr (0, [.ref a12, .int q1.2.2.2.2.1, .int q1.2.2.2.2.2])) :: (a12, .inl (y 3, 14, .inr (.inr (.inr (.inr (gRf ga8 q1.2.2.2.1)))))) :: (a6, .inr (1, [.ref a13, .ref a14])) :: (a13, .inl (y 3, 2, .inr (.inr (.inr (.inr (gRf gb9 lq)))))) :: (a14, .inl (y 2, 2, .inl lfl)) :: T11) := hD
    refine lv_goto (tgt := 25) hx hb dL_write_10 (by decide) ?_
    refine lv_iconst (v := 0) hx hb dL_write_25 (by decide) ?_
    refine W.widen (k := 5) (n := 92) (Nat.le_of_ble_eq_true rfl) (Nat.le_of_ble_eq_true rfl) ?_
    refine vx_ret ?_
    rw [← hT11] at hP hD
    exact W.iret (v := 0) hx hb hr (fun t ht hW => ⟨⟨0, ⟨q1.2.2.1, q1.2.2.2.1, q1.2.2.2.2.1, q1.2.2.2.2.2, (vp_updL od ((0 : Int32).toNatClampNeg) q1.2.1.toInt64)⟩, rfl, hF, ⟨ga8, gb9, by rw [ht]; exact hP, hD⟩⟩, hS.F ht⟩) hS.2.2 dL_write_26

def f_L_hammer (od : Nat → Int64) (tn : Int32) (tf : Nat → Int32) (r : gR) (rc : gR) (qz : Int32) (qn : Int32) (hq : Nat → Option gR) (lq : Nat → Option gR) (lfl : Nat → Int32) (p1 : Int32) (p2 : Int32) : Int32 × gR × (Nat → Option gR) × Int32 × Int32 × (Nat → Int64) :=
    gLet (f_X5_hammer tn tf r rc qz qn hq lq lfl p1 p2) (fun (q1 : Nat × Int32 × gR × (Nat → Option gR) × Int32 × Int32) =>
    if q1.1 = 0 then
      (0, q1.2.2.1, q1.2.2.2.1, q1.2.2.2.2.1, q1.2.2.2.2.2, (vp_updL od ((0 : Int32).toNatClampNeg) q1.2.1.toInt64))
    else
      if q1.1 = 3 then
        (1, q1.2.2.1, q1.2.2.2.1, q1.2.2.2.2.1, q1.2.2.2.2.2, od)
      else
        (2, q1.2.2.1, q1.2.2.2.1, q1.2.2.2.2.1, q1.2.2.2.2.2, od))
theorem f_L_hammer_s (od : Nat → Int64) (tn : Int32) (tf : Nat → Int32) (r : gR) (rc : gR) (qz : Int32) (qn : Int32) (hq : Nat → Option gR) (lq : Nat → Option gR) (lfl : Nat → Int32) (p1 : Int32) (p2 : Int32) : f_L_hammer od tn tf r rc qz qn hq lq lfl p1 p2 =
    (gLet (f_X5_hammer tn tf r rc qz qn hq lq lfl p1 p2) (fun (q1 : Nat × Int32 × gR × (Nat → Option gR) × Int32 × Int32) =>
    if q1.1 = 0 then
      (0, q1.2.2.1, q1.2.2.2.1, q1.2.2.2.2.1, q1.2.2.2.2.2, (vp_updL od ((0 : Int32).toNatClampNeg) q1.2.1.toInt64))
    else
      if q1.1 = 3 then
        (1, q1.2.2.1, q1.2.2.2.1, q1.2.2.2.2.1, q1.2.2.2.2.2, od)
      else
        (2, q1.2.2.1, q1.2.2.2.1, q1.2.2.2.2.1, q1.2.2.2.2.2, od))) := rfl
theorem hd_L_hammer : yL_hammer.cls ≠ "java/lang/invoke/MethodHandle" ∧ yL_hammer.cls ≠ "java/lang/invoke/VarHandle" ∧ (parseMethodDescriptor yL_hammer.desc).map (fun d => d.parameters.length) = some 4 := by decide +kernel
set_option maxHeartbeats 4000000 in
set_option maxRecDepth 100000 in
theorem c_L_hammer (l : Launch) (hst : l.stackTraces = false) (D : va_G) (y : Nat → ClassId) (a0 a1 a2 a3 a4 a5 a6 a7 a8 a9 a10 a11 a12 a13 a14 : Nat) (ga gb : Nat → Nat × Nat × Nat) (zh : Nat) (od : Nat → Int64) (tn : Int32) (tf : Nat → Int32) (r : gR) (rc : gR) (qz : Int32) (qn : Int32) (hq : Nat → Option gR) (lq : Nat → Option gR) (lfl : Nat → Int32) (p1 : Int32) (p2 : Int32) (hh : 0 ≤ qn.toInt ∧ qn.toInt < (14 : Nat)) (ho : okC r) : Met l yL_hammer wsL_hammer ({ frames := 8, cells := 5, slots := 92, locals := 125 }) (lP D y [.ref a1, .int p1, .int p2, .ref a0] zh ((a0, .inl (y 4, 1, .inr (.inl od))) :: (a1, .inr (4, [.ref a2, .ref a3, .ref a4, .ref a5, .ref a6])) :: (a2, .inr (3, [.ref a7, .int tn])) :: (a7, .inl (y 1, 120, .inl tf)) :: (a3, soF a8 a9 r) :: (a8, soV y r) :: (a9, soW y r) :: (a4, soF a10 a11 rc) :: (a10, soV y rc) :: (a11, soW y rc) :: (a5, .inr (0, [.ref a12, .int qz, .int qn])) :: (a12, .inl (y 3, 14, .inr (.inr (.inr (.inr (gRf ga hq)))))) :: (a6, .inr (1, [.ref a13, .ref a14])) :: (a13, .inl (y 3, 2, .inr (.inr (.inr (.inr (gRf gb lq)))))) :: (a14, .inl (y 2, 2, .inl lfl)) :: gTail y ga gb hq lq)) (va_Qi (fun (v : Int32) (u : gR × (Nat → Option gR) × Int32 × Int32 × (Nat → Int64)) => f_L_hammer od tn tf r rc qz qn hq lq lfl p1 p2 = (v, u)) (fun (u : gR × (Nat → Option gR) × Int32 × Int32 × (Nat → Int64)) t => ∃ (g1 g2 : Nat → Nat × Nat × Nat), va_P D vwCl ((a0, .inl (y 4, 1, .inr (.inl u.2.2.2.2))) :: (a1, .inr (4, [.ref a2, .ref a3, .ref a4, .ref a5, .ref a6])) :: (a2, .inr (3, [.ref a7, .int tn])) :: (a7, .inl (y 1, 120, .inl tf)) :: (a3, soF a8 a9 u.1) :: (a8, soV y u.1) :: (a9, soW y u.1) :: (a4, soF a10 a11 rc) :: (a10, soV y rc) :: (a11, soW y rc) :: (a5, .inr (0, [.ref a12, .int u.2.2.1, .int u.2.2.2.1])) :: (a12, .inl (y 3, 14, .inr (.inr (.inr (.inr (gRf g1 u.2.1)))))) :: (a6, .inr (1, [.ref a13, .ref a14])) :: (a13, .inl (y 3, 2, .inr (.inr (.inr (.inr (gRf g2 lq)))))) :: (a14, .inl (y 2, 2, .inl lfl)) :: gTail y g1 g2 u.2.1 lq) t.heap ∧ va_D (va_A ((a0, .inl (y 4, 1, .inr (.inl od))) :: (a1, .inr (4, [.ref a2, .ref a3, .ref a4, .ref a5, .ref a6])) :: (a2, .inr (3, [.ref a7, .int tn])) :: (a7, .inl (y 1, 120, .inl tf)) :: (a3, soF a8 a9 r) :: (a8, soV y r) :: (a9, soW y r) :: (a4, soF a10 a11 rc) :: (a10, soV y rc) :: (a11, soW y rc) :: (a5, .inr (0, [.ref a12, .int qz, .int qn])) :: (a12, .inl (y 3, 14, .inr (.inr (.inr (.inr (gRf ga hq)))))) :: (a6, .inr (1, [.ref a13, .ref a14])) :: (a13, .inl (y 3, 2, .inr (.inr (.inr (.inr (gRf gb lq)))))) :: (a14, .inl (y 2, 2, .inl lfl)) :: gTail y ga gb hq lq) zh) ((a0, .inl (y 4, 1, .inr (.inl u.2.2.2.2))) :: (a1, .inr (4, [.ref a2, .ref a3, .ref a4, .ref a5, .ref a6])) :: (a2, .inr (3, [.ref a7, .int tn])) :: (a7, .inl (y 1, 120, .inl tf)) :: (a3, soF a8 a9 u.1) :: (a8, soV y u.1) :: (a9, soW y u.1) :: (a4, soF a10 a11 rc) :: (a10, soV y rc) :: (a11, soW y rc) :: (a5, .inr (0, [.ref a12, .int u.2.2.1, .int u.2.2.2.1])) :: (a12, .inl (y 3, 14, .inr (.inr (.inr (.inr (gRf g1 u.2.1)))))) :: (a6, .inr (1, [.ref a13, .ref a14])) :: (a13, .inl (y 3, 2, .inr (.inr (.inr (.inr (gRf g2 lq)))))) :: (a14, .inl (y 2, 2, .inl lfl)) :: gTail y g1 g2 u.2.1 lq)) (va_A ((a0, .inl (y 4, 1, .inr (.inl od))) :: (a1, .inr (4, [.ref a2, .ref a3, .ref a4, .ref a5, .ref a6])) :: (a2, .inr (3, [.ref a7, .int tn])) :: (a7, .inl (y 1, 120, .inl tf)) :: (a3, soF a8 a9 r) :: (a8, soV y r) :: (a9, soW y r) :: (a4, soF a10 a11 rc) :: (a10, soV y rc) :: (a11, soW y rc) :: (a5, .inr (0, [.ref a12, .int qz, .int qn])) :: (a12, .inl (y 3, 14, .inr (.inr (.inr (.inr (gRf ga hq)))))) :: (a6, .inr (1, [.ref a13, .ref a14])) :: (a13, .inl (y 3, 2, .inr (.inr (.inr (.inr (gRf gb lq)))))) :: (a14, .inl (y 2, 2, .inl lfl)) :: gTail y ga gb hq lq) zh)) 5 92 (va_A ((a0, .inl (y 4, 1, .inr (.inl od))) :: (a1, .inr (4, [.ref a2, .ref a3, .ref a4, .ref a5, .ref a6])) :: (a2, .inr (3, [.ref a7, .int tn])) :: (a7, .inl (y 1, 120, .inl tf)) :: (a3, soF a8 a9 r) :: (a8, soV y r) :: (a9, soW y r) :: (a4, soF a10 a11 rc) :: (a10, soV y rc) :: (a11, soW y rc) :: (a5, .inr (0, [.ref a12, .int qz, .int qn])) :: (a12, .inl (y 3, 14, .inr (.inr (.inr (.inr (gRf ga hq)))))) :: (a6, .inr (1, [.ref a13, .ref a14])) :: (a13, .inl (y 3, 2, .inr (.inr (.inr (.inr (gRf gb lq)))))) :: (a14, .inl (y 2, 2, .inl lfl)) :: gTail y ga gb hq lq) zh) := by
  refine xL_of (vx_ofWH (cc := cL_hammer) (maxL := 5) (ret := (some .int)) (hh := [(0, 10, 13, 27), (0, 10, 17, 13)]) (by decide) rfl ?_)
  intro p e s m args below meth c s₁ B hml hv
  obtain ⟨⟨⟨rfl, hsz, hP, hE, hD⟩, hXE, hXZ⟩, hLN⟩ := hv
  have hx := B.exec
  have hb := B.bytes
  have hr := B.returns
  have hts := atoms_spec (ws := wsL_hammer) B.pre
  have hown : s.vm.findClass RL = some m.cls := findClass_of_methodNamed B.named
  have hlocks := B.notSynchronized
  have htab := vx_table (x := yL_hammer) B (hts _ List.mem_cons_self)
  have w_0 := hts (.classLink RL 27 "java/lang/IndexOutOfBoundsException") (List.mem_cons_of_mem _ (List.mem_append_left _ (List.mem_append_left _ (List.mem_append_left _ (List.mem_append_left _ (List.mem_append_left _ (List.mem_append_left _ (List.mem_of_getElem? (i := 0) rfl))))))))
  have w_1 := hts (.classLink RL 13 "java/lang/IllegalArgumentException") (List.mem_cons_of_mem _ (List.mem_append_left _ (List.mem_append_left _ (List.mem_append_left _ (List.mem_append_left _ (List.mem_append_left _ (List.mem_append_left _ (List.mem_of_getElem? (i := 1) rfl))))))))
  subst hsz
  have hD := hD.self (sz := s.heap.size)
  generalize hAe : va_A ((a0, .inl (y 4, 1, .inr (.inl od))) :: (a1, .inr (4, [.ref a2, .ref a3, .ref a4, .ref a5, .ref a6])) :: (a2, .inr (3, [.ref a7, .int tn])) :: (a7, .inl (y 1, 120, .inl tf)) :: (a3, soF a8 a9 r) :: (a8, soV y r) :: (a9, soW y r) :: (a4, soF a10 a11 rc) :: (a10, soV y rc) :: (a11, soW y rc) :: (a5, .inr (0, [.ref a12, .int qz, .int qn])) :: (a12, .inl (y 3, 14, .inr (.inr (.inr (.inr (gRf ga hq)))))) :: (a6, .inr (1, [.ref a13, .ref a14])) :: (a13, .inl (y 3, 2, .inr (.inr (.inr (.inr (gRf gb lq)))))) :: (a14, .inl (y 2, 2, .inl lfl)) :: gTail y ga gb hq lq) s.heap.size = A at hD hXZ ⊢
  have hA : ∀ q : Nat, s.heap.size ≤ q → A q := fun q h => by rw [← hAe]; exact Or.inr h
  have hS : va_S A s.heap s.heap [] := va_S.rf
  have hl := lv_entry ([.ref a1, .int p1, .int p2, .ref a0]) (n := 5) (Nat.le_of_ble_eq_true rfl)
  rw [lg_entry_eq]
  generalize (lg_sl ([.ref a1, .int p1, .int p2, .ref a0]) ++ List.replicate (5 - (lg_sl ([.ref a1, .int p1, .int p2, .ref a0])).length) Slot.unset).toArray = ls at hl ⊢
  have hl : lv_has ls 5 [(0, .ref a1), (1, .int p1), (2, .int p2), (3, .ref a0)] := hl
  have hF := f_L_hammer_s od tn tf r rc qz qn hq lq lfl p1 p2
  obtain ⟨T, hT⟩ : ∃ T : va_W, gTail y ga gb hq lq = T := ⟨_, rfl⟩
  rw [hT] at hP hD
  refine lv_aload_n hx hb dL_hammer_0 rfl (lv_at hl 3 rfl) ?_
  refine lv_iconst (v := 0) hx hb dL_hammer_1 (by decide) ?_
  refine lv_aload_n hx hb dL_hammer_2 rfl (lv_at hl 0 rfl) ?_
  refine lv_iload_n hx hb dL_hammer_3 rfl (lv_at hl 1 rfl) ?_
  refine lv_iload_n hx hb dL_hammer_4 rfl (lv_at hl 2 rfl) ?_
  rw [← hT] at hP hD
  obtain ⟨q1, eq1⟩ : ∃ z : Nat × Int32 × gR × (Nat → Option gR) × Int32 × Int32, f_X5_hammer tn tf r rc qz qn hq lq lfl p1 p2 = z := ⟨_, rfl⟩
  have hF := hF.trans (gLet_e eq1)
  refine xq_callEi (ex := [(a0, .inl (y 4, 1, .inr (.inl od)))]) (vx_runV (As := [.int p1, .int p2]) (rest := [.int 0, .ref a0]) ⟨hx, hb, hml, hown, hts⟩ (c_X5_hammer l hst D y a1 a2 a3 a4 a5 a6 a7 a8 a9 a10 a11 a12 a13 a14 ga gb s.heap.size tn tf r rc qz qn hq lq lfl p1 p2 hh ho) (cwV 2 hts gL_hammer_X5_hammer rfl rfl rfl hd_X5_hammer ⟨Nat.le_of_ble_eq_true rfl, Nat.le_of_ble_eq_true rfl⟩) (xV (q := (RX5, TX5, 5)) hE hXE hXZ hS hA (xa_tlP hP) (xa_tlD hD) 0 rfl rfl) rfl rfl hl.1 rfl (lv_room (Nat.le_of_ble_eq_true rfl)) dL_hammer_5 ⟨Nat.le_of_ble_eq_true rfl, Nat.le_of_ble_eq_true rfl⟩) hP hD hS hA (fun E5 ce6 a97 u3 ga8 gb9 H locs h4 hP hD hS h4a h4b h4c => ?_) (fun v2 u3 ga8 gb9 H locs h4 hP hD hS => ?_)
  · have h4q : q1.1 = xc E5 := by rw [← eq1, h4.1]
    obtain rfl : q1.2.2 = u3 := by rw [← eq1, h4.1]
    have hP : va_P D vwCl ((a0, .inl (y 4, 1, .inr (.inl od))) :: (a1, .inr (4, [.ref a2, .ref a3, .ref a4, .ref a5, .ref a6])) :: (a2, .inr (3, [.ref a7, .int tn])) :: (a7, .inl (y 1, 120, .inl tf)) :: (a3, soF a8 a9 q1.2.2.1) :: (a8, soV y q1.2.2.1) :: (a9, soW y q1.2.2.1) :: (a4, soF a10 a11 rc) :: (a10, soV y rc) :: (a11, soW y rc) :: (a5, .inr (0, [.ref a12, .int q1.2.2.2.2.1, .int q1.2.2.2.2.2])) :: (a12, .inl (y 3, 14, .inr (.inr (.inr (.inr (gRf ga8 q1.2.2.2.1)))))) :: (a6, .inr (1, [.ref a13, .ref a14])) :: (a13, .inl (y 3, 2, .inr (.inr (.inr (.inr (gRf gb9 lq)))))) :: (a14, .inl (y 2, 2, .inl lfl)) :: gTail y ga8 gb9 q1.2.2.2.1 lq) H := hP
    have hD : va_D A ((a0, .inl (y 4, 1, .inr (.inl od))) :: (a1, .inr (4, [.ref a2, .ref a3, .ref a4, .ref a5, .ref a6])) :: (a2, .inr (3, [.ref a7, .int tn])) :: (a7, .inl (y 1, 120, .inl tf)) :: (a3, soF a8 a9 q1.2.2.1) :: (a8, soV y q1.2.2.1) :: (a9, soW y q1.2.2.1) :: (a4, soF a10 a11 rc) :: (a10, soV y rc) :: (a11, soW y rc) :: (a5, .inr (0, [.ref a12, .int q1.2.2.2.2.1, .int q1.2.2.2.2.2])) :: (a12, .inl (y 3, 14, .inr (.inr (.inr (.inr (gRf ga8 q1.2.2.2.1)))))) :: (a6, .inr (1, [.ref a13, .ref a14])) :: (a13, .inl (y 3, 2, .inr (.inr (.inr (.inr (gRf gb9 lq)))))) :: (a14, .inl (y 2, 2, .inl lfl)) :: gTail y ga8 gb9 q1.2.2.2.1 lq) := hD
    obtain ⟨T10, hT10⟩ : ∃ T : va_W, gTail y ga8 gb9 q1.2.2.2.1 lq = T := ⟨_, rfl⟩
    rw [hT10] at hP hD
    rcases xc_E h4.2 with rfl | rfl | rfl
    · rw [xc_IA] at h4q
      have hF := hF.trans (if_neg (show ¬ q1.1 = 0 by rw [h4q]; decide))
      have hF := hF.trans (if_neg (show ¬ q1.1 = 3 by rw [h4q]; decide))
      refine vx_catch hown (tableOf [(0, 10, 13, 27)]) ⟨0, 10, 17, 13⟩ (tableOf []) (htab.trans rfl) (fun z hz => by simp only [tableOf, List.map_cons, List.map_nil, List.mem_cons, List.not_mem_nil, or_false] at hz; rcases hz with rfl; exact Or.inr ⟨by decide, _, w_0, hLN.1.2⟩) (by decide) (by decide) w_1 (hXE.1.1.1.use rfl) h4a h4b h4c ?_
      refine W.eq (g2 := F0 m 17 ls [.ref a97]) rfl ?_
      refine lv_astore (lv' := [(4, .ref a97), (0, .ref a1), (1, .int p1), (2, .int p2), (3, .ref a0)]) hx hb dL_hammer_17 hl (by decide) rfl (fun ls hl => ?_)
      refine lv_iconst (v := 2) hx hb dL_hammer_19 (by decide) ?_
      refine W.widen (k := 5) (n := 92) (Nat.le_of_ble_eq_true rfl) (Nat.le_of_ble_eq_true rfl) ?_
      refine vx_ret ?_
      rw [← hT10] at hP hD
      exact W.iret (v := 2) hx hb hr (fun t ht hW => ⟨⟨2, ⟨q1.2.2.1, q1.2.2.2.1, q1.2.2.2.2.1, q1.2.2.2.2.2, od⟩, rfl, hF, ⟨ga8, gb9, by rw [ht]; exact hP, hD⟩⟩, hS.F ht⟩) hS.2.2 dL_hammer_20
    · rw [xc_IS] at h4q
      have hc := cd_X5_hammer tn tf r rc qz qn hq lq lfl p1 p2
      rw [eq1, h4q] at hc
      exact absurd hc (by decide)
    · rw [xc_IO] at h4q
      have hF := hF.trans (if_neg (show ¬ q1.1 = 0 by rw [h4q]; decide))
      have hF := hF.trans (if_pos h4q)
      refine vx_catch hown (tableOf []) ⟨0, 10, 13, 27⟩ (tableOf [(0, 10, 17, 13)]) (htab.trans rfl) (fun z hz => nomatch hz) (by decide) (by decide) w_0 (hXE.1.1.2.2.use rfl) h4a h4b h4c ?_
      refine W.eq (g2 := F0 m 13 ls [.ref a97]) rfl ?_
      refine lv_astore (lv' := [(4, .ref a97), (0, .ref a1), (1, .int p1), (2, .int p2), (3, .ref a0)]) hx hb dL_hammer_13 hl (by decide) rfl (fun ls hl => ?_)
      refine lv_iconst (v := 1) hx hb dL_hammer_15 (by decide) ?_
      refine W.widen (k := 5) (n := 92) (Nat.le_of_ble_eq_true rfl) (Nat.le_of_ble_eq_true rfl) ?_
      refine vx_ret ?_
      rw [← hT10] at hP hD
      exact W.iret (v := 1) hx hb hr (fun t ht hW => ⟨⟨1, ⟨q1.2.2.1, q1.2.2.2.1, q1.2.2.2.2.1, q1.2.2.2.2.2, od⟩, rfl, hF, ⟨ga8, gb9, by rw [ht]; exact hP, hD⟩⟩, hS.F ht⟩) hS.2.2 dL_hammer_16
  · have h4q : q1.1 = 0 := by rw [← eq1, h4]
    obtain ⟨rfl, rfl⟩ : q1.2.1 = v2 ∧ q1.2.2 = u3 := ⟨by rw [← eq1, h4], by rw [← eq1, h4]⟩
    have hP : va_P D vwCl ((a0, .inl (y 4, 1, .inr (.inl od))) :: (a1, .inr (4, [.ref a2, .ref a3, .ref a4, .ref a5, .ref a6])) :: (a2, .inr (3, [.ref a7, .int tn])) :: (a7, .inl (y 1, 120, .inl tf)) :: (a3, soF a8 a9 q1.2.2.1) :: (a8, soV y q1.2.2.1) :: (a9, soW y q1.2.2.1) :: (a4, soF a10 a11 rc) :: (a10, soV y rc) :: (a11, soW y rc) :: (a5, .inr (0, [.ref a12, .int q1.2.2.2.2.1, .int q1.2.2.2.2.2])) :: (a12, .inl (y 3, 14, .inr (.inr (.inr (.inr (gRf ga8 q1.2.2.2.1)))))) :: (a6, .inr (1, [.ref a13, .ref a14])) :: (a13, .inl (y 3, 2, .inr (.inr (.inr (.inr (gRf gb9 lq)))))) :: (a14, .inl (y 2, 2, .inl lfl)) :: gTail y ga8 gb9 q1.2.2.2.1 lq) H := hP
    have hD : va_D A ((a0, .inl (y 4, 1, .inr (.inl od))) :: (a1, .inr (4, [.ref a2, .ref a3, .ref a4, .ref a5, .ref a6])) :: (a2, .inr (3, [.ref a7, .int tn])) :: (a7, .inl (y 1, 120, .inl tf)) :: (a3, soF a8 a9 q1.2.2.1) :: (a8, soV y q1.2.2.1) :: (a9, soW y q1.2.2.1) :: (a4, soF a10 a11 rc) :: (a10, soV y rc) :: (a11, soW y rc) :: (a5, .inr (0, [.ref a12, .int q1.2.2.2.2.1, .int q1.2.2.2.2.2])) :: (a12, .inl (y 3, 14, .inr (.inr (.inr (.inr (gRf ga8 q1.2.2.2.1)))))) :: (a6, .inr (1, [.ref a13, .ref a14])) :: (a13, .inl (y 3, 2, .inr (.inr (.inr (.inr (gRf gb9 lq)))))) :: (a14, .inl (y 2, 2, .inl lfl)) :: gTail y ga8 gb9 q1.2.2.2.1 lq) := hD
    obtain ⟨T11, hT11⟩ : ∃ T : va_W, gTail y ga8 gb9 q1.2.2.2.1 lq = T := ⟨_, rfl⟩
    rw [hT11] at hP hD
    have hF := hF.trans (if_pos h4q)
    refine lv_i2l (v := q1.2.1.toInt64) hx hb dL_hammer_8 rfl ?_
    refine va_last hx hb hE.1 hP hD hS 0 4 rfl rfl (xin (by decide)) dL_hammer_9 (fun H locs hP hD hS => ?_)
    have hP : va_P D vwCl ((a0, .inl (y 4, 1, .inr (.inl (vp_updL od ((0 : Int32).toNatClampNeg) q1.2.1.toInt64)))) :: (a1, .inr (4, [.ref a2, .ref a3, .ref a4, .ref a5, .ref a6])) :: (a2, .inr (3, [.ref a7, .int tn])) :: (a7, .inl (y 1, 120, .inl tf)) :: (a3, soF a8 a9 q1.2.2.1) :: (a8, soV y q1.2.2.1) :: (a9, soW y q1.2.2.1) :: (a4, soF a10 a11 rc) :: (a10, soV y rc) :: (a11, soW y rc) :: (a5, .inr (0, [.ref a12, .int q1.2.2.2.2.1, .int q1.2.2.2.2.2])) :: (a12, .inl (y 3, 14, .inr (.inr (.inr (.inr (gRf ga8 q1.2.2.2.1)))))) :: (a6, .inr (1, [.ref a13, .ref a14])) :: (a13, .inl (y 3, 2, .inr (.inr (.inr (.inr (gRf gb9 lq)))))) :: (a14, .inl (y 2, 2, .inl lfl)) :: T11) H := hP
    have hD : va_D A ((a0, .inl (y 4, 1, .inr (.inl (vp_updL od ((0 : Int32).toNatClampNeg) q1.2.1.toInt64)))) :: (a1, .inr (4, [.ref a2, .ref a3, .ref a4, .ref a5, .ref a6])) :: (a2, .inr (3, [.ref a7, .int tn])) :: (a7, .inl (y 1, 120, .inl tf)) :: (a3, soF a8 a9 q1.2.2.1) :: (a8, soV y q1.2.2.1) :: (a9, soW y q1.2.2.1) :: (a4, soF a10 a11 rc) :: (a10, soV y rc) :: (a11, soW y rc) :: (a5, .inr (0, [.ref a12, .int q1.2.2.2.2.1, .int q1.2.2.2.2.2])) :: (a12, .inl (y 3, 14, .inr (.inr (.inr (.inr (gRf ga8 q1.2.2.2.1)))))) :: (a6, .inr (1, [.ref a13, .ref a14])) :: (a13, .inl (y 3, 2, .inr (.inr (.inr (.inr (gRf gb9 lq)))))) :: (a14, .inl (y 2, 2, .inl lfl)) :: T11) := hD
    refine lv_goto (tgt := 21) hx hb dL_hammer_10 (by decide) ?_
    refine lv_iconst (v := 0) hx hb dL_hammer_21 (by decide) ?_
    refine W.widen (k := 5) (n := 92) (Nat.le_of_ble_eq_true rfl) (Nat.le_of_ble_eq_true rfl) ?_
    refine vx_ret ?_
    rw [← hT11] at hP hD
    exact W.iret (v := 0) hx hb hr (fun t ht hW => ⟨⟨0, ⟨q1.2.2.1, q1.2.2.2.1, q1.2.2.2.2.1, q1.2.2.2.2.2, (vp_updL od ((0 : Int32).toNatClampNeg) q1.2.1.toInt64)⟩, rfl, hF, ⟨ga8, gb9, by rw [ht]; exact hP, hD⟩⟩, hS.F ht⟩) hS.2.2 dL_hammer_22

def f_L_all (od : Nat → Int64) (tn : Int32) (tf : Nat → Int32) (r : gR) (rc : gR) (qz : Int32) (qn : Int32) (hq : Nat → Option gR) (lq : Nat → Option gR) (lfl : Nat → Int32) (p1 : Int32) : Int32 × gR × (Nat → Option gR) × Int32 × Int32 × (Nat → Int64) :=
    gLet (f_X5_all tn tf r rc qz qn hq lq lfl p1) (fun (q1 : Nat × Int32 × gR × (Nat → Option gR) × Int32 × Int32) =>
    if q1.1 = 0 then
      (0, q1.2.2.1, q1.2.2.2.1, q1.2.2.2.2.1, q1.2.2.2.2.2, (vp_updL od ((0 : Int32).toNatClampNeg) q1.2.1.toInt64))
    else
      if q1.1 = 1 then
        (1, q1.2.2.1, q1.2.2.2.1, q1.2.2.2.2.1, q1.2.2.2.2.2, od)
      else
        (2, q1.2.2.1, q1.2.2.2.1, q1.2.2.2.2.1, q1.2.2.2.2.2, od))
theorem f_L_all_s (od : Nat → Int64) (tn : Int32) (tf : Nat → Int32) (r : gR) (rc : gR) (qz : Int32) (qn : Int32) (hq : Nat → Option gR) (lq : Nat → Option gR) (lfl : Nat → Int32) (p1 : Int32) : f_L_all od tn tf r rc qz qn hq lq lfl p1 =
    (gLet (f_X5_all tn tf r rc qz qn hq lq lfl p1) (fun (q1 : Nat × Int32 × gR × (Nat → Option gR) × Int32 × Int32) =>
    if q1.1 = 0 then
      (0, q1.2.2.1, q1.2.2.2.1, q1.2.2.2.2.1, q1.2.2.2.2.2, (vp_updL od ((0 : Int32).toNatClampNeg) q1.2.1.toInt64))
    else
      if q1.1 = 1 then
        (1, q1.2.2.1, q1.2.2.2.1, q1.2.2.2.2.1, q1.2.2.2.2.2, od)
      else
        (2, q1.2.2.1, q1.2.2.2.1, q1.2.2.2.2.1, q1.2.2.2.2.2, od))) := rfl
theorem hd_L_all : yL_all.cls ≠ "java/lang/invoke/MethodHandle" ∧ yL_all.cls ≠ "java/lang/invoke/VarHandle" ∧ (parseMethodDescriptor yL_all.desc).map (fun d => d.parameters.length) = some 3 := by decide +kernel
set_option maxHeartbeats 4000000 in
set_option maxRecDepth 100000 in
theorem c_L_all (l : Launch) (hst : l.stackTraces = false) (D : va_G) (y : Nat → ClassId) (a0 a1 a2 a3 a4 a5 a6 a7 a8 a9 a10 a11 a12 a13 a14 : Nat) (ga gb : Nat → Nat × Nat × Nat) (zh : Nat) (od : Nat → Int64) (tn : Int32) (tf : Nat → Int32) (r : gR) (rc : gR) (qz : Int32) (qn : Int32) (hq : Nat → Option gR) (lq : Nat → Option gR) (lfl : Nat → Int32) (p1 : Int32) (hh : 0 ≤ qn.toInt ∧ qn.toInt < (14 : Nat)) (ho : okC r) : Met l yL_all wsL_all ({ frames := 8, cells := 5, slots := 92, locals := 123 }) (lP D y [.ref a1, .int p1, .ref a0] zh ((a0, .inl (y 4, 1, .inr (.inl od))) :: (a1, .inr (4, [.ref a2, .ref a3, .ref a4, .ref a5, .ref a6])) :: (a2, .inr (3, [.ref a7, .int tn])) :: (a7, .inl (y 1, 120, .inl tf)) :: (a3, soF a8 a9 r) :: (a8, soV y r) :: (a9, soW y r) :: (a4, soF a10 a11 rc) :: (a10, soV y rc) :: (a11, soW y rc) :: (a5, .inr (0, [.ref a12, .int qz, .int qn])) :: (a12, .inl (y 3, 14, .inr (.inr (.inr (.inr (gRf ga hq)))))) :: (a6, .inr (1, [.ref a13, .ref a14])) :: (a13, .inl (y 3, 2, .inr (.inr (.inr (.inr (gRf gb lq)))))) :: (a14, .inl (y 2, 2, .inl lfl)) :: gTail y ga gb hq lq)) (va_Qi (fun (v : Int32) (u : gR × (Nat → Option gR) × Int32 × Int32 × (Nat → Int64)) => f_L_all od tn tf r rc qz qn hq lq lfl p1 = (v, u)) (fun (u : gR × (Nat → Option gR) × Int32 × Int32 × (Nat → Int64)) t => ∃ (g1 g2 : Nat → Nat × Nat × Nat), va_P D vwCl ((a0, .inl (y 4, 1, .inr (.inl u.2.2.2.2))) :: (a1, .inr (4, [.ref a2, .ref a3, .ref a4, .ref a5, .ref a6])) :: (a2, .inr (3, [.ref a7, .int tn])) :: (a7, .inl (y 1, 120, .inl tf)) :: (a3, soF a8 a9 u.1) :: (a8, soV y u.1) :: (a9, soW y u.1) :: (a4, soF a10 a11 rc) :: (a10, soV y rc) :: (a11, soW y rc) :: (a5, .inr (0, [.ref a12, .int u.2.2.1, .int u.2.2.2.1])) :: (a12, .inl (y 3, 14, .inr (.inr (.inr (.inr (gRf g1 u.2.1)))))) :: (a6, .inr (1, [.ref a13, .ref a14])) :: (a13, .inl (y 3, 2, .inr (.inr (.inr (.inr (gRf g2 lq)))))) :: (a14, .inl (y 2, 2, .inl lfl)) :: gTail y g1 g2 u.2.1 lq) t.heap ∧ va_D (va_A ((a0, .inl (y 4, 1, .inr (.inl od))) :: (a1, .inr (4, [.ref a2, .ref a3, .ref a4, .ref a5, .ref a6])) :: (a2, .inr (3, [.ref a7, .int tn])) :: (a7, .inl (y 1, 120, .inl tf)) :: (a3, soF a8 a9 r) :: (a8, soV y r) :: (a9, soW y r) :: (a4, soF a10 a11 rc) :: (a10, soV y rc) :: (a11, soW y rc) :: (a5, .inr (0, [.ref a12, .int qz, .int qn])) :: (a12, .inl (y 3, 14, .inr (.inr (.inr (.inr (gRf ga hq)))))) :: (a6, .inr (1, [.ref a13, .ref a14])) :: (a13, .inl (y 3, 2, .inr (.inr (.inr (.inr (gRf gb lq)))))) :: (a14, .inl (y 2, 2, .inl lfl)) :: gTail y ga gb hq lq) zh) ((a0, .inl (y 4, 1, .inr (.inl u.2.2.2.2))) :: (a1, .inr (4, [.ref a2, .ref a3, .ref a4, .ref a5, .ref a6])) :: (a2, .inr (3, [.ref a7, .int tn])) :: (a7, .inl (y 1, 120, .inl tf)) :: (a3, soF a8 a9 u.1) :: (a8, soV y u.1) :: (a9, soW y u.1) :: (a4, soF a10 a11 rc) :: (a10, soV y rc) :: (a11, soW y rc) :: (a5, .inr (0, [.ref a12, .int u.2.2.1, .int u.2.2.2.1])) :: (a12, .inl (y 3, 14, .inr (.inr (.inr (.inr (gRf g1 u.2.1)))))) :: (a6, .inr (1, [.ref a13, .ref a14])) :: (a13, .inl (y 3, 2, .inr (.inr (.inr (.inr (gRf g2 lq)))))) :: (a14, .inl (y 2, 2, .inl lfl)) :: gTail y g1 g2 u.2.1 lq)) (va_A ((a0, .inl (y 4, 1, .inr (.inl od))) :: (a1, .inr (4, [.ref a2, .ref a3, .ref a4, .ref a5, .ref a6])) :: (a2, .inr (3, [.ref a7, .int tn])) :: (a7, .inl (y 1, 120, .inl tf)) :: (a3, soF a8 a9 r) :: (a8, soV y r) :: (a9, soW y r) :: (a4, soF a10 a11 rc) :: (a10, soV y rc) :: (a11, soW y rc) :: (a5, .inr (0, [.ref a12, .int qz, .int qn])) :: (a12, .inl (y 3, 14, .inr (.inr (.inr (.inr (gRf ga hq)))))) :: (a6, .inr (1, [.ref a13, .ref a14])) :: (a13, .inl (y 3, 2, .inr (.inr (.inr (.inr (gRf gb lq)))))) :: (a14, .inl (y 2, 2, .inl lfl)) :: gTail y ga gb hq lq) zh)) 5 92 (va_A ((a0, .inl (y 4, 1, .inr (.inl od))) :: (a1, .inr (4, [.ref a2, .ref a3, .ref a4, .ref a5, .ref a6])) :: (a2, .inr (3, [.ref a7, .int tn])) :: (a7, .inl (y 1, 120, .inl tf)) :: (a3, soF a8 a9 r) :: (a8, soV y r) :: (a9, soW y r) :: (a4, soF a10 a11 rc) :: (a10, soV y rc) :: (a11, soW y rc) :: (a5, .inr (0, [.ref a12, .int qz, .int qn])) :: (a12, .inl (y 3, 14, .inr (.inr (.inr (.inr (gRf ga hq)))))) :: (a6, .inr (1, [.ref a13, .ref a14])) :: (a13, .inl (y 3, 2, .inr (.inr (.inr (.inr (gRf gb lq)))))) :: (a14, .inl (y 2, 2, .inl lfl)) :: gTail y ga gb hq lq) zh) := by
  refine xL_of (vx_ofWH (cc := cL_all) (maxL := 4) (ret := (some .int)) (hh := [(0, 9, 12, 13), (0, 9, 15, 15)]) (by decide) rfl ?_)
  intro p e s m args below meth c s₁ B hml hv
  obtain ⟨⟨⟨rfl, hsz, hP, hE, hD⟩, hXE, hXZ⟩, hLN⟩ := hv
  have hx := B.exec
  have hb := B.bytes
  have hr := B.returns
  have hts := atoms_spec (ws := wsL_all) B.pre
  have hown : s.vm.findClass RL = some m.cls := findClass_of_methodNamed B.named
  have hlocks := B.notSynchronized
  have htab := vx_table (x := yL_all) B (hts _ List.mem_cons_self)
  have w_0 := hts (.classLink RL 13 "java/lang/IllegalArgumentException") (List.mem_cons_of_mem _ (List.mem_append_left _ (List.mem_append_left _ (List.mem_append_left _ (List.mem_append_left _ (List.mem_append_left _ (List.mem_append_left _ (List.mem_of_getElem? (i := 0) rfl))))))))
  have w_1 := hts (.classLink RL 15 "java/lang/IllegalStateException") (List.mem_cons_of_mem _ (List.mem_append_left _ (List.mem_append_left _ (List.mem_append_left _ (List.mem_append_left _ (List.mem_append_left _ (List.mem_append_left _ (List.mem_of_getElem? (i := 1) rfl))))))))
  subst hsz
  have hD := hD.self (sz := s.heap.size)
  generalize hAe : va_A ((a0, .inl (y 4, 1, .inr (.inl od))) :: (a1, .inr (4, [.ref a2, .ref a3, .ref a4, .ref a5, .ref a6])) :: (a2, .inr (3, [.ref a7, .int tn])) :: (a7, .inl (y 1, 120, .inl tf)) :: (a3, soF a8 a9 r) :: (a8, soV y r) :: (a9, soW y r) :: (a4, soF a10 a11 rc) :: (a10, soV y rc) :: (a11, soW y rc) :: (a5, .inr (0, [.ref a12, .int qz, .int qn])) :: (a12, .inl (y 3, 14, .inr (.inr (.inr (.inr (gRf ga hq)))))) :: (a6, .inr (1, [.ref a13, .ref a14])) :: (a13, .inl (y 3, 2, .inr (.inr (.inr (.inr (gRf gb lq)))))) :: (a14, .inl (y 2, 2, .inl lfl)) :: gTail y ga gb hq lq) s.heap.size = A at hD hXZ ⊢
  have hA : ∀ q : Nat, s.heap.size ≤ q → A q := fun q h => by rw [← hAe]; exact Or.inr h
  have hS : va_S A s.heap s.heap [] := va_S.rf
  have hl := lv_entry ([.ref a1, .int p1, .ref a0]) (n := 4) (Nat.le_of_ble_eq_true rfl)
  rw [lg_entry_eq]
  generalize (lg_sl ([.ref a1, .int p1, .ref a0]) ++ List.replicate (4 - (lg_sl ([.ref a1, .int p1, .ref a0])).length) Slot.unset).toArray = ls at hl ⊢
  have hl : lv_has ls 4 [(0, .ref a1), (1, .int p1), (2, .ref a0)] := hl
  have hF := f_L_all_s od tn tf r rc qz qn hq lq lfl p1
  obtain ⟨T, hT⟩ : ∃ T : va_W, gTail y ga gb hq lq = T := ⟨_, rfl⟩
  rw [hT] at hP hD
  refine lv_aload_n hx hb dL_all_0 rfl (lv_at hl 2 rfl) ?_
  refine lv_iconst (v := 0) hx hb dL_all_1 (by decide) ?_
  refine lv_aload_n hx hb dL_all_2 rfl (lv_at hl 0 rfl) ?_
  refine lv_iload_n hx hb dL_all_3 rfl (lv_at hl 1 rfl) ?_
  rw [← hT] at hP hD
  obtain ⟨q1, eq1⟩ : ∃ z : Nat × Int32 × gR × (Nat → Option gR) × Int32 × Int32, f_X5_all tn tf r rc qz qn hq lq lfl p1 = z := ⟨_, rfl⟩
  have hF := hF.trans (gLet_e eq1)
  refine xq_callEi (ex := [(a0, .inl (y 4, 1, .inr (.inl od)))]) (vx_runV (As := [.int p1]) (rest := [.int 0, .ref a0]) ⟨hx, hb, hml, hown, hts⟩ (c_X5_all l hst D y a1 a2 a3 a4 a5 a6 a7 a8 a9 a10 a11 a12 a13 a14 ga gb s.heap.size tn tf r rc qz qn hq lq lfl p1 hh ho) (cwV 1 hts gL_all_X5_all rfl rfl rfl hd_X5_all ⟨Nat.le_of_ble_eq_true rfl, Nat.le_of_ble_eq_true rfl⟩) (xV (q := (RX5, TX5, 5)) hE hXE hXZ hS hA (xa_tlP hP) (xa_tlD hD) 0 rfl rfl) rfl rfl hl.1 rfl (lv_room (Nat.le_of_ble_eq_true rfl)) dL_all_4 ⟨Nat.le_of_ble_eq_true rfl, Nat.le_of_ble_eq_true rfl⟩) hP hD hS hA (fun E5 ce6 a97 u3 ga8 gb9 H locs h4 hP hD hS h4a h4b h4c => ?_) (fun v2 u3 ga8 gb9 H locs h4 hP hD hS => ?_)
  · have h4q : q1.1 = xc E5 := by rw [← eq1, h4.1]
    obtain rfl : q1.2.2 = u3 := by rw [← eq1, h4.1]
    have hP : va_P D vwCl ((a0, .inl (y 4, 1, .inr (.inl od))) :: (a1, .inr (4, [.ref a2, .ref a3, .ref a4, .ref a5, .ref a6])) :: (a2, .inr (3, [.ref a7, .int tn])) :: (a7, .inl (y 1, 120, .inl tf)) :: (a3, soF a8 a9 q1.2.2.1) :: (a8, soV y q1.2.2.1) :: (a9, soW y q1.2.2.1) :: (a4, soF a10 a11 rc) :: (a10, soV y rc) :: (a11, soW y rc) :: (a5, .inr (0, [.ref a12, .int q1.2.2.2.2.1, .int q1.2.2.2.2.2])) :: (a12, .inl (y 3, 14, .inr (.inr (.inr (.inr (gRf ga8 q1.2.2.2.1)))))) :: (a6, .inr (1, [.ref a13, .ref a14])) :: (a13, .inl (y 3, 2, .inr (.inr (.inr (.inr (gRf gb9 lq)))))) :: (a14, .inl (y 2, 2, .inl lfl)) :: gTail y ga8 gb9 q1.2.2.2.1 lq) H := hP
    have hD : va_D A ((a0, .inl (y 4, 1, .inr (.inl od))) :: (a1, .inr (4, [.ref a2, .ref a3, .ref a4, .ref a5, .ref a6])) :: (a2, .inr (3, [.ref a7, .int tn])) :: (a7, .inl (y 1, 120, .inl tf)) :: (a3, soF a8 a9 q1.2.2.1) :: (a8, soV y q1.2.2.1) :: (a9, soW y q1.2.2.1) :: (a4, soF a10 a11 rc) :: (a10, soV y rc) :: (a11, soW y rc) :: (a5, .inr (0, [.ref a12, .int q1.2.2.2.2.1, .int q1.2.2.2.2.2])) :: (a12, .inl (y 3, 14, .inr (.inr (.inr (.inr (gRf ga8 q1.2.2.2.1)))))) :: (a6, .inr (1, [.ref a13, .ref a14])) :: (a13, .inl (y 3, 2, .inr (.inr (.inr (.inr (gRf gb9 lq)))))) :: (a14, .inl (y 2, 2, .inl lfl)) :: gTail y ga8 gb9 q1.2.2.2.1 lq) := hD
    obtain ⟨T10, hT10⟩ : ∃ T : va_W, gTail y ga8 gb9 q1.2.2.2.1 lq = T := ⟨_, rfl⟩
    rw [hT10] at hP hD
    rcases xc_E h4.2 with rfl | rfl | rfl
    · rw [xc_IA] at h4q
      have hF := hF.trans (if_neg (show ¬ q1.1 = 0 by rw [h4q]; decide))
      have hF := hF.trans (if_pos h4q)
      refine vx_catch hown (tableOf []) ⟨0, 9, 12, 13⟩ (tableOf [(0, 9, 15, 15)]) (htab.trans rfl) (fun z hz => nomatch hz) (by decide) (by decide) w_0 (hXE.1.1.1.use rfl) h4a h4b h4c ?_
      refine W.eq (g2 := F0 m 12 ls [.ref a97]) rfl ?_
      refine lv_astore_n (lv' := [(3, .ref a97), (0, .ref a1), (1, .int p1), (2, .ref a0)]) hx hb dL_all_12 rfl hl (by decide) rfl (fun ls hl => ?_)
      refine lv_iconst (v := 1) hx hb dL_all_13 (by decide) ?_
      refine W.widen (k := 5) (n := 92) (Nat.le_of_ble_eq_true rfl) (Nat.le_of_ble_eq_true rfl) ?_
      refine vx_ret ?_
      rw [← hT10] at hP hD
      exact W.iret (v := 1) hx hb hr (fun t ht hW => ⟨⟨1, ⟨q1.2.2.1, q1.2.2.2.1, q1.2.2.2.2.1, q1.2.2.2.2.2, od⟩, rfl, hF, ⟨ga8, gb9, by rw [ht]; exact hP, hD⟩⟩, hS.F ht⟩) hS.2.2 dL_all_14
    · rw [xc_IS] at h4q
      have hF := hF.trans (if_neg (show ¬ q1.1 = 0 by rw [h4q]; decide))
      have hF := hF.trans (if_neg (show ¬ q1.1 = 1 by rw [h4q]; decide))
      refine vx_catch hown (tableOf [(0, 9, 12, 13)]) ⟨0, 9, 15, 15⟩ (tableOf []) (htab.trans rfl) (fun z hz => by simp only [tableOf, List.map_cons, List.map_nil, List.mem_cons, List.not_mem_nil, or_false] at hz; rcases hz with rfl; exact Or.inr ⟨by decide, _, w_0, hLN.2.1.1⟩) (by decide) (by decide) w_1 (hXE.1.1.2.1.use rfl) h4a h4b h4c ?_
      refine W.eq (g2 := F0 m 15 ls [.ref a97]) rfl ?_
      refine lv_astore_n (lv' := [(3, .ref a97), (0, .ref a1), (1, .int p1), (2, .ref a0)]) hx hb dL_all_15 rfl hl (by decide) rfl (fun ls hl => ?_)
      refine lv_iconst (v := 2) hx hb dL_all_16 (by decide) ?_
      refine W.widen (k := 5) (n := 92) (Nat.le_of_ble_eq_true rfl) (Nat.le_of_ble_eq_true rfl) ?_
      refine vx_ret ?_
      rw [← hT10] at hP hD
      exact W.iret (v := 2) hx hb hr (fun t ht hW => ⟨⟨2, ⟨q1.2.2.1, q1.2.2.2.1, q1.2.2.2.2.1, q1.2.2.2.2.2, od⟩, rfl, hF, ⟨ga8, gb9, by rw [ht]; exact hP, hD⟩⟩, hS.F ht⟩) hS.2.2 dL_all_17
    · rw [xc_IO] at h4q
      have hc := cd_X5_all tn tf r rc qz qn hq lq lfl p1
      rw [eq1, h4q] at hc
      exact absurd hc (by decide)
  · have h4q : q1.1 = 0 := by rw [← eq1, h4]
    obtain ⟨rfl, rfl⟩ : q1.2.1 = v2 ∧ q1.2.2 = u3 := ⟨by rw [← eq1, h4], by rw [← eq1, h4]⟩
    have hP : va_P D vwCl ((a0, .inl (y 4, 1, .inr (.inl od))) :: (a1, .inr (4, [.ref a2, .ref a3, .ref a4, .ref a5, .ref a6])) :: (a2, .inr (3, [.ref a7, .int tn])) :: (a7, .inl (y 1, 120, .inl tf)) :: (a3, soF a8 a9 q1.2.2.1) :: (a8, soV y q1.2.2.1) :: (a9, soW y q1.2.2.1) :: (a4, soF a10 a11 rc) :: (a10, soV y rc) :: (a11, soW y rc) :: (a5, .inr (0, [.ref a12, .int q1.2.2.2.2.1, .int q1.2.2.2.2.2])) :: (a12, .inl (y 3, 14, .inr (.inr (.inr (.inr (gRf ga8 q1.2.2.2.1)))))) :: (a6, .inr (1, [.ref a13, .ref a14])) :: (a13, .inl (y 3, 2, .inr (.inr (.inr (.inr (gRf gb9 lq)))))) :: (a14, .inl (y 2, 2, .inl lfl)) :: gTail y ga8 gb9 q1.2.2.2.1 lq) H := hP
    have hD : va_D A ((a0, .inl (y 4, 1, .inr (.inl od))) :: (a1, .inr (4, [.ref a2, .ref a3, .ref a4, .ref a5, .ref a6])) :: (a2, .inr (3, [.ref a7, .int tn])) :: (a7, .inl (y 1, 120, .inl tf)) :: (a3, soF a8 a9 q1.2.2.1) :: (a8, soV y q1.2.2.1) :: (a9, soW y q1.2.2.1) :: (a4, soF a10 a11 rc) :: (a10, soV y rc) :: (a11, soW y rc) :: (a5, .inr (0, [.ref a12, .int q1.2.2.2.2.1, .int q1.2.2.2.2.2])) :: (a12, .inl (y 3, 14, .inr (.inr (.inr (.inr (gRf ga8 q1.2.2.2.1)))))) :: (a6, .inr (1, [.ref a13, .ref a14])) :: (a13, .inl (y 3, 2, .inr (.inr (.inr (.inr (gRf gb9 lq)))))) :: (a14, .inl (y 2, 2, .inl lfl)) :: gTail y ga8 gb9 q1.2.2.2.1 lq) := hD
    obtain ⟨T11, hT11⟩ : ∃ T : va_W, gTail y ga8 gb9 q1.2.2.2.1 lq = T := ⟨_, rfl⟩
    rw [hT11] at hP hD
    have hF := hF.trans (if_pos h4q)
    refine lv_i2l (v := q1.2.1.toInt64) hx hb dL_all_7 rfl ?_
    refine va_last hx hb hE.1 hP hD hS 0 4 rfl rfl (xin (by decide)) dL_all_8 (fun H locs hP hD hS => ?_)
    have hP : va_P D vwCl ((a0, .inl (y 4, 1, .inr (.inl (vp_updL od ((0 : Int32).toNatClampNeg) q1.2.1.toInt64)))) :: (a1, .inr (4, [.ref a2, .ref a3, .ref a4, .ref a5, .ref a6])) :: (a2, .inr (3, [.ref a7, .int tn])) :: (a7, .inl (y 1, 120, .inl tf)) :: (a3, soF a8 a9 q1.2.2.1) :: (a8, soV y q1.2.2.1) :: (a9, soW y q1.2.2.1) :: (a4, soF a10 a11 rc) :: (a10, soV y rc) :: (a11, soW y rc) :: (a5, .inr (0, [.ref a12, .int q1.2.2.2.2.1, .int q1.2.2.2.2.2])) :: (a12, .inl (y 3, 14, .inr (.inr (.inr (.inr (gRf ga8 q1.2.2.2.1)))))) :: (a6, .inr (1, [.ref a13, .ref a14])) :: (a13, .inl (y 3, 2, .inr (.inr (.inr (.inr (gRf gb9 lq)))))) :: (a14, .inl (y 2, 2, .inl lfl)) :: T11) H := hP
    have hD : va_D A ((a0, .inl (y 4, 1, .inr (.inl (vp_updL od ((0 : Int32).toNatClampNeg) q1.2.1.toInt64)))) :: (a1, .inr (4, [.ref a2, .ref a3, .ref a4, .ref a5, .ref a6])) :: (a2, .inr (3, [.ref a7, .int tn])) :: (a7, .inl (y 1, 120, .inl tf)) :: (a3, soF a8 a9 q1.2.2.1) :: (a8, soV y q1.2.2.1) :: (a9, soW y q1.2.2.1) :: (a4, soF a10 a11 rc) :: (a10, soV y rc) :: (a11, soW y rc) :: (a5, .inr (0, [.ref a12, .int q1.2.2.2.2.1, .int q1.2.2.2.2.2])) :: (a12, .inl (y 3, 14, .inr (.inr (.inr (.inr (gRf ga8 q1.2.2.2.1)))))) :: (a6, .inr (1, [.ref a13, .ref a14])) :: (a13, .inl (y 3, 2, .inr (.inr (.inr (.inr (gRf gb9 lq)))))) :: (a14, .inl (y 2, 2, .inl lfl)) :: T11) := hD
    refine lv_goto (tgt := 18) hx hb dL_all_9 (by decide) ?_
    refine lv_iconst (v := 0) hx hb dL_all_18 (by decide) ?_
    refine W.widen (k := 5) (n := 92) (Nat.le_of_ble_eq_true rfl) (Nat.le_of_ble_eq_true rfl) ?_
    refine vx_ret ?_
    rw [← hT11] at hP hD
    exact W.iret (v := 0) hx hb hr (fun t ht hW => ⟨⟨0, ⟨q1.2.2.1, q1.2.2.2.1, q1.2.2.2.2.1, q1.2.2.2.2.2, (vp_updL od ((0 : Int32).toNatClampNeg) q1.2.1.toInt64)⟩, rfl, hF, ⟨ga8, gb9, by rw [ht]; exact hP, hD⟩⟩, hS.F ht⟩) hS.2.2 dL_all_19

def f_L_set (od : Nat → Int64) (tn : Int32) (tf : Nat → Int32) (r : gR) (rc : gR) (qz : Int32) (qn : Int32) (hq : Nat → Option gR) (lq : Nat → Option gR) (lfl : Nat → Int32) (p1 : Int32) (p2 : Int32) : Int32 × gR × (Nat → Option gR) × Int32 × Int32 × (Nat → Int64) :=
    gLet (f_X5_set tn tf r rc qz qn hq lq lfl p1 p2) (fun (q1 : Nat × Int32 × gR × (Nat → Option gR) × Int32 × Int32) =>
    if q1.1 = 0 then
      (0, q1.2.2.1, q1.2.2.2.1, q1.2.2.2.2.1, q1.2.2.2.2.2, (vp_updL od ((0 : Int32).toNatClampNeg) q1.2.1.toInt64))
    else
      (1, q1.2.2.1, q1.2.2.2.1, q1.2.2.2.2.1, q1.2.2.2.2.2, od))
theorem f_L_set_s (od : Nat → Int64) (tn : Int32) (tf : Nat → Int32) (r : gR) (rc : gR) (qz : Int32) (qn : Int32) (hq : Nat → Option gR) (lq : Nat → Option gR) (lfl : Nat → Int32) (p1 : Int32) (p2 : Int32) : f_L_set od tn tf r rc qz qn hq lq lfl p1 p2 =
    (gLet (f_X5_set tn tf r rc qz qn hq lq lfl p1 p2) (fun (q1 : Nat × Int32 × gR × (Nat → Option gR) × Int32 × Int32) =>
    if q1.1 = 0 then
      (0, q1.2.2.1, q1.2.2.2.1, q1.2.2.2.2.1, q1.2.2.2.2.2, (vp_updL od ((0 : Int32).toNatClampNeg) q1.2.1.toInt64))
    else
      (1, q1.2.2.1, q1.2.2.2.1, q1.2.2.2.2.1, q1.2.2.2.2.2, od))) := rfl
theorem hd_L_set : yL_set.cls ≠ "java/lang/invoke/MethodHandle" ∧ yL_set.cls ≠ "java/lang/invoke/VarHandle" ∧ (parseMethodDescriptor yL_set.desc).map (fun d => d.parameters.length) = some 4 := by decide +kernel
set_option maxHeartbeats 4000000 in
set_option maxRecDepth 100000 in
theorem c_L_set (l : Launch) (hst : l.stackTraces = false) (D : va_G) (y : Nat → ClassId) (a0 a1 a2 a3 a4 a5 a6 a7 a8 a9 a10 a11 a12 a13 a14 : Nat) (ga gb : Nat → Nat × Nat × Nat) (zh : Nat) (od : Nat → Int64) (tn : Int32) (tf : Nat → Int32) (r : gR) (rc : gR) (qz : Int32) (qn : Int32) (hq : Nat → Option gR) (lq : Nat → Option gR) (lfl : Nat → Int32) (p1 : Int32) (p2 : Int32) (hh : 0 ≤ qn.toInt ∧ qn.toInt < (14 : Nat)) (ho : okC r) : Met l yL_set wsL_set ({ frames := 7, cells := 5, slots := 92, locals := 105 }) (lP D y [.ref a1, .int p1, .int p2, .ref a0] zh ((a0, .inl (y 4, 1, .inr (.inl od))) :: (a1, .inr (4, [.ref a2, .ref a3, .ref a4, .ref a5, .ref a6])) :: (a2, .inr (3, [.ref a7, .int tn])) :: (a7, .inl (y 1, 120, .inl tf)) :: (a3, soF a8 a9 r) :: (a8, soV y r) :: (a9, soW y r) :: (a4, soF a10 a11 rc) :: (a10, soV y rc) :: (a11, soW y rc) :: (a5, .inr (0, [.ref a12, .int qz, .int qn])) :: (a12, .inl (y 3, 14, .inr (.inr (.inr (.inr (gRf ga hq)))))) :: (a6, .inr (1, [.ref a13, .ref a14])) :: (a13, .inl (y 3, 2, .inr (.inr (.inr (.inr (gRf gb lq)))))) :: (a14, .inl (y 2, 2, .inl lfl)) :: gTail y ga gb hq lq)) (va_Qi (fun (v : Int32) (u : gR × (Nat → Option gR) × Int32 × Int32 × (Nat → Int64)) => f_L_set od tn tf r rc qz qn hq lq lfl p1 p2 = (v, u)) (fun (u : gR × (Nat → Option gR) × Int32 × Int32 × (Nat → Int64)) t => ∃ (g1 g2 : Nat → Nat × Nat × Nat), va_P D vwCl ((a0, .inl (y 4, 1, .inr (.inl u.2.2.2.2))) :: (a1, .inr (4, [.ref a2, .ref a3, .ref a4, .ref a5, .ref a6])) :: (a2, .inr (3, [.ref a7, .int tn])) :: (a7, .inl (y 1, 120, .inl tf)) :: (a3, soF a8 a9 u.1) :: (a8, soV y u.1) :: (a9, soW y u.1) :: (a4, soF a10 a11 rc) :: (a10, soV y rc) :: (a11, soW y rc) :: (a5, .inr (0, [.ref a12, .int u.2.2.1, .int u.2.2.2.1])) :: (a12, .inl (y 3, 14, .inr (.inr (.inr (.inr (gRf g1 u.2.1)))))) :: (a6, .inr (1, [.ref a13, .ref a14])) :: (a13, .inl (y 3, 2, .inr (.inr (.inr (.inr (gRf g2 lq)))))) :: (a14, .inl (y 2, 2, .inl lfl)) :: gTail y g1 g2 u.2.1 lq) t.heap ∧ va_D (va_A ((a0, .inl (y 4, 1, .inr (.inl od))) :: (a1, .inr (4, [.ref a2, .ref a3, .ref a4, .ref a5, .ref a6])) :: (a2, .inr (3, [.ref a7, .int tn])) :: (a7, .inl (y 1, 120, .inl tf)) :: (a3, soF a8 a9 r) :: (a8, soV y r) :: (a9, soW y r) :: (a4, soF a10 a11 rc) :: (a10, soV y rc) :: (a11, soW y rc) :: (a5, .inr (0, [.ref a12, .int qz, .int qn])) :: (a12, .inl (y 3, 14, .inr (.inr (.inr (.inr (gRf ga hq)))))) :: (a6, .inr (1, [.ref a13, .ref a14])) :: (a13, .inl (y 3, 2, .inr (.inr (.inr (.inr (gRf gb lq)))))) :: (a14, .inl (y 2, 2, .inl lfl)) :: gTail y ga gb hq lq) zh) ((a0, .inl (y 4, 1, .inr (.inl u.2.2.2.2))) :: (a1, .inr (4, [.ref a2, .ref a3, .ref a4, .ref a5, .ref a6])) :: (a2, .inr (3, [.ref a7, .int tn])) :: (a7, .inl (y 1, 120, .inl tf)) :: (a3, soF a8 a9 u.1) :: (a8, soV y u.1) :: (a9, soW y u.1) :: (a4, soF a10 a11 rc) :: (a10, soV y rc) :: (a11, soW y rc) :: (a5, .inr (0, [.ref a12, .int u.2.2.1, .int u.2.2.2.1])) :: (a12, .inl (y 3, 14, .inr (.inr (.inr (.inr (gRf g1 u.2.1)))))) :: (a6, .inr (1, [.ref a13, .ref a14])) :: (a13, .inl (y 3, 2, .inr (.inr (.inr (.inr (gRf g2 lq)))))) :: (a14, .inl (y 2, 2, .inl lfl)) :: gTail y g1 g2 u.2.1 lq)) (va_A ((a0, .inl (y 4, 1, .inr (.inl od))) :: (a1, .inr (4, [.ref a2, .ref a3, .ref a4, .ref a5, .ref a6])) :: (a2, .inr (3, [.ref a7, .int tn])) :: (a7, .inl (y 1, 120, .inl tf)) :: (a3, soF a8 a9 r) :: (a8, soV y r) :: (a9, soW y r) :: (a4, soF a10 a11 rc) :: (a10, soV y rc) :: (a11, soW y rc) :: (a5, .inr (0, [.ref a12, .int qz, .int qn])) :: (a12, .inl (y 3, 14, .inr (.inr (.inr (.inr (gRf ga hq)))))) :: (a6, .inr (1, [.ref a13, .ref a14])) :: (a13, .inl (y 3, 2, .inr (.inr (.inr (.inr (gRf gb lq)))))) :: (a14, .inl (y 2, 2, .inl lfl)) :: gTail y ga gb hq lq) zh)) 5 92 (va_A ((a0, .inl (y 4, 1, .inr (.inl od))) :: (a1, .inr (4, [.ref a2, .ref a3, .ref a4, .ref a5, .ref a6])) :: (a2, .inr (3, [.ref a7, .int tn])) :: (a7, .inl (y 1, 120, .inl tf)) :: (a3, soF a8 a9 r) :: (a8, soV y r) :: (a9, soW y r) :: (a4, soF a10 a11 rc) :: (a10, soV y rc) :: (a11, soW y rc) :: (a5, .inr (0, [.ref a12, .int qz, .int qn])) :: (a12, .inl (y 3, 14, .inr (.inr (.inr (.inr (gRf ga hq)))))) :: (a6, .inr (1, [.ref a13, .ref a14])) :: (a13, .inl (y 3, 2, .inr (.inr (.inr (.inr (gRf gb lq)))))) :: (a14, .inl (y 2, 2, .inl lfl)) :: gTail y ga gb hq lq) zh) := by
  refine xL_of (vx_ofWH (cc := cL_set) (maxL := 5) (ret := (some .int)) (hh := [(0, 10, 13, 13)]) (by decide) rfl ?_)
  intro p e s m args below meth c s₁ B hml hv
  obtain ⟨⟨⟨rfl, hsz, hP, hE, hD⟩, hXE, hXZ⟩, hLN⟩ := hv
  have hx := B.exec
  have hb := B.bytes
  have hr := B.returns
  have hts := atoms_spec (ws := wsL_set) B.pre
  have hown : s.vm.findClass RL = some m.cls := findClass_of_methodNamed B.named
  have hlocks := B.notSynchronized
  have htab := vx_table (x := yL_set) B (hts _ List.mem_cons_self)
  have w_0 := hts (.classLink RL 13 "java/lang/IllegalArgumentException") (List.mem_cons_of_mem _ (List.mem_append_left _ (List.mem_append_left _ (List.mem_append_left _ (List.mem_append_left _ (List.mem_append_left _ (List.mem_of_getElem? (i := 0) rfl)))))))
  subst hsz
  have hD := hD.self (sz := s.heap.size)
  generalize hAe : va_A ((a0, .inl (y 4, 1, .inr (.inl od))) :: (a1, .inr (4, [.ref a2, .ref a3, .ref a4, .ref a5, .ref a6])) :: (a2, .inr (3, [.ref a7, .int tn])) :: (a7, .inl (y 1, 120, .inl tf)) :: (a3, soF a8 a9 r) :: (a8, soV y r) :: (a9, soW y r) :: (a4, soF a10 a11 rc) :: (a10, soV y rc) :: (a11, soW y rc) :: (a5, .inr (0, [.ref a12, .int qz, .int qn])) :: (a12, .inl (y 3, 14, .inr (.inr (.inr (.inr (gRf ga hq)))))) :: (a6, .inr (1, [.ref a13, .ref a14])) :: (a13, .inl (y 3, 2, .inr (.inr (.inr (.inr (gRf gb lq)))))) :: (a14, .inl (y 2, 2, .inl lfl)) :: gTail y ga gb hq lq) s.heap.size = A at hD hXZ ⊢
  have hA : ∀ q : Nat, s.heap.size ≤ q → A q := fun q h => by rw [← hAe]; exact Or.inr h
  have hS : va_S A s.heap s.heap [] := va_S.rf
  have hl := lv_entry ([.ref a1, .int p1, .int p2, .ref a0]) (n := 5) (Nat.le_of_ble_eq_true rfl)
  rw [lg_entry_eq]
  generalize (lg_sl ([.ref a1, .int p1, .int p2, .ref a0]) ++ List.replicate (5 - (lg_sl ([.ref a1, .int p1, .int p2, .ref a0])).length) Slot.unset).toArray = ls at hl ⊢
  have hl : lv_has ls 5 [(0, .ref a1), (1, .int p1), (2, .int p2), (3, .ref a0)] := hl
  have hF := f_L_set_s od tn tf r rc qz qn hq lq lfl p1 p2
  obtain ⟨T, hT⟩ : ∃ T : va_W, gTail y ga gb hq lq = T := ⟨_, rfl⟩
  rw [hT] at hP hD
  refine lv_aload_n hx hb dL_set_0 rfl (lv_at hl 3 rfl) ?_
  refine lv_iconst (v := 0) hx hb dL_set_1 (by decide) ?_
  refine lv_aload_n hx hb dL_set_2 rfl (lv_at hl 0 rfl) ?_
  refine lv_iload_n hx hb dL_set_3 rfl (lv_at hl 1 rfl) ?_
  refine lv_iload_n hx hb dL_set_4 rfl (lv_at hl 2 rfl) ?_
  rw [← hT] at hP hD
  obtain ⟨q1, eq1⟩ : ∃ z : Nat × Int32 × gR × (Nat → Option gR) × Int32 × Int32, f_X5_set tn tf r rc qz qn hq lq lfl p1 p2 = z := ⟨_, rfl⟩
  have hF := hF.trans (gLet_e eq1)
  refine xq_callEi (ex := [(a0, .inl (y 4, 1, .inr (.inl od)))]) (vx_runV (As := [.int p1, .int p2]) (rest := [.int 0, .ref a0]) ⟨hx, hb, hml, hown, hts⟩ (c_X5_set l hst D y a1 a2 a3 a4 a5 a6 a7 a8 a9 a10 a11 a12 a13 a14 ga gb s.heap.size tn tf r rc qz qn hq lq lfl p1 p2 hh ho) (cwV 2 hts gL_set_X5_set rfl rfl rfl hd_X5_set ⟨Nat.le_of_ble_eq_true rfl, Nat.le_of_ble_eq_true rfl⟩) (xV (q := (RX5, TX5, 5)) hE hXE hXZ hS hA (xa_tlP hP) (xa_tlD hD) 0 rfl rfl) rfl rfl hl.1 rfl (lv_room (Nat.le_of_ble_eq_true rfl)) dL_set_5 ⟨Nat.le_of_ble_eq_true rfl, Nat.le_of_ble_eq_true rfl⟩) hP hD hS hA (fun E5 ce6 a97 u3 ga8 gb9 H locs h4 hP hD hS h4a h4b h4c => ?_) (fun v2 u3 ga8 gb9 H locs h4 hP hD hS => ?_)
  · have h4q : q1.1 = xc E5 := by rw [← eq1, h4.1]
    obtain rfl : q1.2.2 = u3 := by rw [← eq1, h4.1]
    have hP : va_P D vwCl ((a0, .inl (y 4, 1, .inr (.inl od))) :: (a1, .inr (4, [.ref a2, .ref a3, .ref a4, .ref a5, .ref a6])) :: (a2, .inr (3, [.ref a7, .int tn])) :: (a7, .inl (y 1, 120, .inl tf)) :: (a3, soF a8 a9 q1.2.2.1) :: (a8, soV y q1.2.2.1) :: (a9, soW y q1.2.2.1) :: (a4, soF a10 a11 rc) :: (a10, soV y rc) :: (a11, soW y rc) :: (a5, .inr (0, [.ref a12, .int q1.2.2.2.2.1, .int q1.2.2.2.2.2])) :: (a12, .inl (y 3, 14, .inr (.inr (.inr (.inr (gRf ga8 q1.2.2.2.1)))))) :: (a6, .inr (1, [.ref a13, .ref a14])) :: (a13, .inl (y 3, 2, .inr (.inr (.inr (.inr (gRf gb9 lq)))))) :: (a14, .inl (y 2, 2, .inl lfl)) :: gTail y ga8 gb9 q1.2.2.2.1 lq) H := hP
    have hD : va_D A ((a0, .inl (y 4, 1, .inr (.inl od))) :: (a1, .inr (4, [.ref a2, .ref a3, .ref a4, .ref a5, .ref a6])) :: (a2, .inr (3, [.ref a7, .int tn])) :: (a7, .inl (y 1, 120, .inl tf)) :: (a3, soF a8 a9 q1.2.2.1) :: (a8, soV y q1.2.2.1) :: (a9, soW y q1.2.2.1) :: (a4, soF a10 a11 rc) :: (a10, soV y rc) :: (a11, soW y rc) :: (a5, .inr (0, [.ref a12, .int q1.2.2.2.2.1, .int q1.2.2.2.2.2])) :: (a12, .inl (y 3, 14, .inr (.inr (.inr (.inr (gRf ga8 q1.2.2.2.1)))))) :: (a6, .inr (1, [.ref a13, .ref a14])) :: (a13, .inl (y 3, 2, .inr (.inr (.inr (.inr (gRf gb9 lq)))))) :: (a14, .inl (y 2, 2, .inl lfl)) :: gTail y ga8 gb9 q1.2.2.2.1 lq) := hD
    obtain ⟨T10, hT10⟩ : ∃ T : va_W, gTail y ga8 gb9 q1.2.2.2.1 lq = T := ⟨_, rfl⟩
    rw [hT10] at hP hD
    rcases xc_E h4.2 with rfl | rfl | rfl
    · rw [xc_IA] at h4q
      have hF := hF.trans (if_neg (show ¬ q1.1 = 0 by rw [h4q]; decide))
      refine vx_catch hown (tableOf []) ⟨0, 10, 13, 13⟩ (tableOf []) (htab.trans rfl) (fun z hz => nomatch hz) (by decide) (by decide) w_0 (hXE.1.1.1.use rfl) h4a h4b h4c ?_
      refine W.eq (g2 := F0 m 13 ls [.ref a97]) rfl ?_
      refine lv_astore (lv' := [(4, .ref a97), (0, .ref a1), (1, .int p1), (2, .int p2), (3, .ref a0)]) hx hb dL_set_13 hl (by decide) rfl (fun ls hl => ?_)
      refine lv_iconst (v := 1) hx hb dL_set_15 (by decide) ?_
      refine W.widen (k := 5) (n := 92) (Nat.le_of_ble_eq_true rfl) (Nat.le_of_ble_eq_true rfl) ?_
      refine vx_ret ?_
      rw [← hT10] at hP hD
      exact W.iret (v := 1) hx hb hr (fun t ht hW => ⟨⟨1, ⟨q1.2.2.1, q1.2.2.2.1, q1.2.2.2.2.1, q1.2.2.2.2.2, od⟩, rfl, hF, ⟨ga8, gb9, by rw [ht]; exact hP, hD⟩⟩, hS.F ht⟩) hS.2.2 dL_set_16
    · rw [xc_IS] at h4q
      have hc := cd_X5_set tn tf r rc qz qn hq lq lfl p1 p2
      rw [eq1, h4q] at hc
      exact absurd hc (by decide)
    · rw [xc_IO] at h4q
      have hc := cd_X5_set tn tf r rc qz qn hq lq lfl p1 p2
      rw [eq1, h4q] at hc
      exact absurd hc (by decide)
  · have h4q : q1.1 = 0 := by rw [← eq1, h4]
    obtain ⟨rfl, rfl⟩ : q1.2.1 = v2 ∧ q1.2.2 = u3 := ⟨by rw [← eq1, h4], by rw [← eq1, h4]⟩
    have hP : va_P D vwCl ((a0, .inl (y 4, 1, .inr (.inl od))) :: (a1, .inr (4, [.ref a2, .ref a3, .ref a4, .ref a5, .ref a6])) :: (a2, .inr (3, [.ref a7, .int tn])) :: (a7, .inl (y 1, 120, .inl tf)) :: (a3, soF a8 a9 q1.2.2.1) :: (a8, soV y q1.2.2.1) :: (a9, soW y q1.2.2.1) :: (a4, soF a10 a11 rc) :: (a10, soV y rc) :: (a11, soW y rc) :: (a5, .inr (0, [.ref a12, .int q1.2.2.2.2.1, .int q1.2.2.2.2.2])) :: (a12, .inl (y 3, 14, .inr (.inr (.inr (.inr (gRf ga8 q1.2.2.2.1)))))) :: (a6, .inr (1, [.ref a13, .ref a14])) :: (a13, .inl (y 3, 2, .inr (.inr (.inr (.inr (gRf gb9 lq)))))) :: (a14, .inl (y 2, 2, .inl lfl)) :: gTail y ga8 gb9 q1.2.2.2.1 lq) H := hP
    have hD : va_D A ((a0, .inl (y 4, 1, .inr (.inl od))) :: (a1, .inr (4, [.ref a2, .ref a3, .ref a4, .ref a5, .ref a6])) :: (a2, .inr (3, [.ref a7, .int tn])) :: (a7, .inl (y 1, 120, .inl tf)) :: (a3, soF a8 a9 q1.2.2.1) :: (a8, soV y q1.2.2.1) :: (a9, soW y q1.2.2.1) :: (a4, soF a10 a11 rc) :: (a10, soV y rc) :: (a11, soW y rc) :: (a5, .inr (0, [.ref a12, .int q1.2.2.2.2.1, .int q1.2.2.2.2.2])) :: (a12, .inl (y 3, 14, .inr (.inr (.inr (.inr (gRf ga8 q1.2.2.2.1)))))) :: (a6, .inr (1, [.ref a13, .ref a14])) :: (a13, .inl (y 3, 2, .inr (.inr (.inr (.inr (gRf gb9 lq)))))) :: (a14, .inl (y 2, 2, .inl lfl)) :: gTail y ga8 gb9 q1.2.2.2.1 lq) := hD
    obtain ⟨T11, hT11⟩ : ∃ T : va_W, gTail y ga8 gb9 q1.2.2.2.1 lq = T := ⟨_, rfl⟩
    rw [hT11] at hP hD
    have hF := hF.trans (if_pos h4q)
    refine lv_i2l (v := q1.2.1.toInt64) hx hb dL_set_8 rfl ?_
    refine va_last hx hb hE.1 hP hD hS 0 4 rfl rfl (xin (by decide)) dL_set_9 (fun H locs hP hD hS => ?_)
    have hP : va_P D vwCl ((a0, .inl (y 4, 1, .inr (.inl (vp_updL od ((0 : Int32).toNatClampNeg) q1.2.1.toInt64)))) :: (a1, .inr (4, [.ref a2, .ref a3, .ref a4, .ref a5, .ref a6])) :: (a2, .inr (3, [.ref a7, .int tn])) :: (a7, .inl (y 1, 120, .inl tf)) :: (a3, soF a8 a9 q1.2.2.1) :: (a8, soV y q1.2.2.1) :: (a9, soW y q1.2.2.1) :: (a4, soF a10 a11 rc) :: (a10, soV y rc) :: (a11, soW y rc) :: (a5, .inr (0, [.ref a12, .int q1.2.2.2.2.1, .int q1.2.2.2.2.2])) :: (a12, .inl (y 3, 14, .inr (.inr (.inr (.inr (gRf ga8 q1.2.2.2.1)))))) :: (a6, .inr (1, [.ref a13, .ref a14])) :: (a13, .inl (y 3, 2, .inr (.inr (.inr (.inr (gRf gb9 lq)))))) :: (a14, .inl (y 2, 2, .inl lfl)) :: T11) H := hP
    have hD : va_D A ((a0, .inl (y 4, 1, .inr (.inl (vp_updL od ((0 : Int32).toNatClampNeg) q1.2.1.toInt64)))) :: (a1, .inr (4, [.ref a2, .ref a3, .ref a4, .ref a5, .ref a6])) :: (a2, .inr (3, [.ref a7, .int tn])) :: (a7, .inl (y 1, 120, .inl tf)) :: (a3, soF a8 a9 q1.2.2.1) :: (a8, soV y q1.2.2.1) :: (a9, soW y q1.2.2.1) :: (a4, soF a10 a11 rc) :: (a10, soV y rc) :: (a11, soW y rc) :: (a5, .inr (0, [.ref a12, .int q1.2.2.2.2.1, .int q1.2.2.2.2.2])) :: (a12, .inl (y 3, 14, .inr (.inr (.inr (.inr (gRf ga8 q1.2.2.2.1)))))) :: (a6, .inr (1, [.ref a13, .ref a14])) :: (a13, .inl (y 3, 2, .inr (.inr (.inr (.inr (gRf gb9 lq)))))) :: (a14, .inl (y 2, 2, .inl lfl)) :: T11) := hD
    refine lv_goto (tgt := 17) hx hb dL_set_10 (by decide) ?_
    refine lv_iconst (v := 0) hx hb dL_set_17 (by decide) ?_
    refine W.widen (k := 5) (n := 92) (Nat.le_of_ble_eq_true rfl) (Nat.le_of_ble_eq_true rfl) ?_
    refine vx_ret ?_
    rw [← hT11] at hP hD
    exact W.iret (v := 0) hx hb hr (fun t ht hW => ⟨⟨0, ⟨q1.2.2.1, q1.2.2.2.1, q1.2.2.2.2.1, q1.2.2.2.2.2, (vp_updL od ((0 : Int32).toNatClampNeg) q1.2.1.toInt64)⟩, rfl, hF, ⟨ga8, gb9, by rw [ht]; exact hP, hD⟩⟩, hS.F ht⟩) hS.2.2 dL_set_18

def f_L_undo (od : Nat → Int64) (tn : Int32) (tf : Nat → Int32) (r : gR) (rc : gR) (qz : Int32) (qn : Int32) (hq : Nat → Option gR) (lq : Nat → Option gR) (lfl : Nat → Int32) : Int32 × gR × Int32 × Int32 × (Nat → Int64) :=
    gLet (f_X5_undo tn tf r rc qz qn hq lq lfl) (fun (q1 : Nat × Int32 × gR × Int32 × Int32) =>
    if q1.1 = 0 then
      (0, q1.2.2.1, q1.2.2.2.1, q1.2.2.2.2, (vp_updL od ((0 : Int32).toNatClampNeg) q1.2.1.toInt64))
    else
      (1, q1.2.2.1, q1.2.2.2.1, q1.2.2.2.2, od))
theorem f_L_undo_s (od : Nat → Int64) (tn : Int32) (tf : Nat → Int32) (r : gR) (rc : gR) (qz : Int32) (qn : Int32) (hq : Nat → Option gR) (lq : Nat → Option gR) (lfl : Nat → Int32) : f_L_undo od tn tf r rc qz qn hq lq lfl =
    (gLet (f_X5_undo tn tf r rc qz qn hq lq lfl) (fun (q1 : Nat × Int32 × gR × Int32 × Int32) =>
    if q1.1 = 0 then
      (0, q1.2.2.1, q1.2.2.2.1, q1.2.2.2.2, (vp_updL od ((0 : Int32).toNatClampNeg) q1.2.1.toInt64))
    else
      (1, q1.2.2.1, q1.2.2.2.1, q1.2.2.2.2, od))) := rfl
theorem hd_L_undo : yL_undo.cls ≠ "java/lang/invoke/MethodHandle" ∧ yL_undo.cls ≠ "java/lang/invoke/VarHandle" ∧ (parseMethodDescriptor yL_undo.desc).map (fun d => d.parameters.length) = some 2 := by decide +kernel
set_option maxHeartbeats 4000000 in
set_option maxRecDepth 100000 in
theorem c_L_undo (l : Launch) (hst : l.stackTraces = false) (D : va_G) (y : Nat → ClassId) (a0 a1 a2 a3 a4 a5 a6 a7 a8 a9 a10 a11 a12 a13 a14 : Nat) (ga gb : Nat → Nat × Nat × Nat) (zh : Nat) (od : Nat → Int64) (tn : Int32) (tf : Nat → Int32) (r : gR) (rc : gR) (qz : Int32) (qn : Int32) (hq : Nat → Option gR) (lq : Nat → Option gR) (lfl : Nat → Int32) (hh : 0 ≤ qn.toInt ∧ qn.toInt < (14 : Nat)) (hoq : okQ hq) : Met l yL_undo wsL_undo ({ frames := 7, cells := 2, slots := 12, locals := 102 }) (lP D y [.ref a1, .ref a0] zh ((a0, .inl (y 4, 1, .inr (.inl od))) :: (a1, .inr (4, [.ref a2, .ref a3, .ref a4, .ref a5, .ref a6])) :: (a2, .inr (3, [.ref a7, .int tn])) :: (a7, .inl (y 1, 120, .inl tf)) :: (a3, soF a8 a9 r) :: (a8, soV y r) :: (a9, soW y r) :: (a4, soF a10 a11 rc) :: (a10, soV y rc) :: (a11, soW y rc) :: (a5, .inr (0, [.ref a12, .int qz, .int qn])) :: (a12, .inl (y 3, 14, .inr (.inr (.inr (.inr (gRf ga hq)))))) :: (a6, .inr (1, [.ref a13, .ref a14])) :: (a13, .inl (y 3, 2, .inr (.inr (.inr (.inr (gRf gb lq)))))) :: (a14, .inl (y 2, 2, .inl lfl)) :: gTail y ga gb hq lq)) (va_Qi (fun (v : Int32) (u : gR × Int32 × Int32 × (Nat → Int64)) => f_L_undo od tn tf r rc qz qn hq lq lfl = (v, u)) (fun (u : gR × Int32 × Int32 × (Nat → Int64)) t => ∃ (g1 g2 : Nat → Nat × Nat × Nat), va_P D vwCl ((a0, .inl (y 4, 1, .inr (.inl u.2.2.2))) :: (a1, .inr (4, [.ref a2, .ref a3, .ref a4, .ref a5, .ref a6])) :: (a2, .inr (3, [.ref a7, .int tn])) :: (a7, .inl (y 1, 120, .inl tf)) :: (a3, soF a8 a9 u.1) :: (a8, soV y u.1) :: (a9, soW y u.1) :: (a4, soF a10 a11 rc) :: (a10, soV y rc) :: (a11, soW y rc) :: (a5, .inr (0, [.ref a12, .int u.2.1, .int u.2.2.1])) :: (a12, .inl (y 3, 14, .inr (.inr (.inr (.inr (gRf g1 hq)))))) :: (a6, .inr (1, [.ref a13, .ref a14])) :: (a13, .inl (y 3, 2, .inr (.inr (.inr (.inr (gRf g2 lq)))))) :: (a14, .inl (y 2, 2, .inl lfl)) :: gTail y g1 g2 hq lq) t.heap ∧ va_D (va_A ((a0, .inl (y 4, 1, .inr (.inl od))) :: (a1, .inr (4, [.ref a2, .ref a3, .ref a4, .ref a5, .ref a6])) :: (a2, .inr (3, [.ref a7, .int tn])) :: (a7, .inl (y 1, 120, .inl tf)) :: (a3, soF a8 a9 r) :: (a8, soV y r) :: (a9, soW y r) :: (a4, soF a10 a11 rc) :: (a10, soV y rc) :: (a11, soW y rc) :: (a5, .inr (0, [.ref a12, .int qz, .int qn])) :: (a12, .inl (y 3, 14, .inr (.inr (.inr (.inr (gRf ga hq)))))) :: (a6, .inr (1, [.ref a13, .ref a14])) :: (a13, .inl (y 3, 2, .inr (.inr (.inr (.inr (gRf gb lq)))))) :: (a14, .inl (y 2, 2, .inl lfl)) :: gTail y ga gb hq lq) zh) ((a0, .inl (y 4, 1, .inr (.inl u.2.2.2))) :: (a1, .inr (4, [.ref a2, .ref a3, .ref a4, .ref a5, .ref a6])) :: (a2, .inr (3, [.ref a7, .int tn])) :: (a7, .inl (y 1, 120, .inl tf)) :: (a3, soF a8 a9 u.1) :: (a8, soV y u.1) :: (a9, soW y u.1) :: (a4, soF a10 a11 rc) :: (a10, soV y rc) :: (a11, soW y rc) :: (a5, .inr (0, [.ref a12, .int u.2.1, .int u.2.2.1])) :: (a12, .inl (y 3, 14, .inr (.inr (.inr (.inr (gRf g1 hq)))))) :: (a6, .inr (1, [.ref a13, .ref a14])) :: (a13, .inl (y 3, 2, .inr (.inr (.inr (.inr (gRf g2 lq)))))) :: (a14, .inl (y 2, 2, .inl lfl)) :: gTail y g1 g2 hq lq)) (va_A ((a0, .inl (y 4, 1, .inr (.inl od))) :: (a1, .inr (4, [.ref a2, .ref a3, .ref a4, .ref a5, .ref a6])) :: (a2, .inr (3, [.ref a7, .int tn])) :: (a7, .inl (y 1, 120, .inl tf)) :: (a3, soF a8 a9 r) :: (a8, soV y r) :: (a9, soW y r) :: (a4, soF a10 a11 rc) :: (a10, soV y rc) :: (a11, soW y rc) :: (a5, .inr (0, [.ref a12, .int qz, .int qn])) :: (a12, .inl (y 3, 14, .inr (.inr (.inr (.inr (gRf ga hq)))))) :: (a6, .inr (1, [.ref a13, .ref a14])) :: (a13, .inl (y 3, 2, .inr (.inr (.inr (.inr (gRf gb lq)))))) :: (a14, .inl (y 2, 2, .inl lfl)) :: gTail y ga gb hq lq) zh)) 2 12 (va_A ((a0, .inl (y 4, 1, .inr (.inl od))) :: (a1, .inr (4, [.ref a2, .ref a3, .ref a4, .ref a5, .ref a6])) :: (a2, .inr (3, [.ref a7, .int tn])) :: (a7, .inl (y 1, 120, .inl tf)) :: (a3, soF a8 a9 r) :: (a8, soV y r) :: (a9, soW y r) :: (a4, soF a10 a11 rc) :: (a10, soV y rc) :: (a11, soW y rc) :: (a5, .inr (0, [.ref a12, .int qz, .int qn])) :: (a12, .inl (y 3, 14, .inr (.inr (.inr (.inr (gRf ga hq)))))) :: (a6, .inr (1, [.ref a13, .ref a14])) :: (a13, .inl (y 3, 2, .inr (.inr (.inr (.inr (gRf gb lq)))))) :: (a14, .inl (y 2, 2, .inl lfl)) :: gTail y ga gb hq lq) zh) := by
  refine xL_of (vx_ofWH (cc := cL_undo) (maxL := 3) (ret := (some .int)) (hh := [(0, 8, 11, 15)]) (by decide) rfl ?_)
  intro p e s m args below meth c s₁ B hml hv
  obtain ⟨⟨⟨rfl, hsz, hP, hE, hD⟩, hXE, hXZ⟩, hLN⟩ := hv
  have hx := B.exec
  have hb := B.bytes
  have hr := B.returns
  have hts := atoms_spec (ws := wsL_undo) B.pre
  have hown : s.vm.findClass RL = some m.cls := findClass_of_methodNamed B.named
  have hlocks := B.notSynchronized
  have htab := vx_table (x := yL_undo) B (hts _ List.mem_cons_self)
  have w_0 := hts (.classLink RL 15 "java/lang/IllegalStateException") (List.mem_cons_of_mem _ (List.mem_append_left _ (List.mem_append_left _ (List.mem_append_left _ (List.mem_append_left _ (List.mem_append_left _ (List.mem_of_getElem? (i := 0) rfl)))))))
  subst hsz
  have hD := hD.self (sz := s.heap.size)
  generalize hAe : va_A ((a0, .inl (y 4, 1, .inr (.inl od))) :: (a1, .inr (4, [.ref a2, .ref a3, .ref a4, .ref a5, .ref a6])) :: (a2, .inr (3, [.ref a7, .int tn])) :: (a7, .inl (y 1, 120, .inl tf)) :: (a3, soF a8 a9 r) :: (a8, soV y r) :: (a9, soW y r) :: (a4, soF a10 a11 rc) :: (a10, soV y rc) :: (a11, soW y rc) :: (a5, .inr (0, [.ref a12, .int qz, .int qn])) :: (a12, .inl (y 3, 14, .inr (.inr (.inr (.inr (gRf ga hq)))))) :: (a6, .inr (1, [.ref a13, .ref a14])) :: (a13, .inl (y 3, 2, .inr (.inr (.inr (.inr (gRf gb lq)))))) :: (a14, .inl (y 2, 2, .inl lfl)) :: gTail y ga gb hq lq) s.heap.size = A at hD hXZ ⊢
  have hA : ∀ q : Nat, s.heap.size ≤ q → A q := fun q h => by rw [← hAe]; exact Or.inr h
  have hS : va_S A s.heap s.heap [] := va_S.rf
  have hl := lv_entry ([.ref a1, .ref a0]) (n := 3) (Nat.le_of_ble_eq_true rfl)
  rw [lg_entry_eq]
  generalize (lg_sl ([.ref a1, .ref a0]) ++ List.replicate (3 - (lg_sl ([.ref a1, .ref a0])).length) Slot.unset).toArray = ls at hl ⊢
  have hl : lv_has ls 3 [(0, .ref a1), (1, .ref a0)] := hl
  have hF := f_L_undo_s od tn tf r rc qz qn hq lq lfl
  obtain ⟨T, hT⟩ : ∃ T : va_W, gTail y ga gb hq lq = T := ⟨_, rfl⟩
  rw [hT] at hP hD
  refine lv_aload_n hx hb dL_undo_0 rfl (lv_at hl 1 rfl) ?_
  refine lv_iconst (v := 0) hx hb dL_undo_1 (by decide) ?_
  refine lv_aload_n hx hb dL_undo_2 rfl (lv_at hl 0 rfl) ?_
  rw [← hT] at hP hD
  obtain ⟨q1, eq1⟩ : ∃ z : Nat × Int32 × gR × Int32 × Int32, f_X5_undo tn tf r rc qz qn hq lq lfl = z := ⟨_, rfl⟩
  have hF := hF.trans (gLet_e eq1)
  refine xq_callEi (ex := [(a0, .inl (y 4, 1, .inr (.inl od)))]) (vx_runV (As := []) (rest := [.int 0, .ref a0]) ⟨hx, hb, hml, hown, hts⟩ (c_X5_undo l hst D y a1 a2 a3 a4 a5 a6 a7 a8 a9 a10 a11 a12 a13 a14 ga gb s.heap.size tn tf r rc qz qn hq lq lfl hh hoq) (cwV 0 hts gL_undo_X5_undo rfl rfl rfl hd_X5_undo ⟨Nat.le_of_ble_eq_true rfl, Nat.le_of_ble_eq_true rfl⟩) (xV (q := (RX5, TX5, 5)) hE hXE hXZ hS hA (xa_tlP hP) (xa_tlD hD) 0 rfl rfl) rfl rfl hl.1 rfl (lv_room (Nat.le_of_ble_eq_true rfl)) dL_undo_3 ⟨Nat.le_of_ble_eq_true rfl, Nat.le_of_ble_eq_true rfl⟩) hP hD hS hA (fun E5 ce6 a97 u3 ga8 gb9 H locs h4 hP hD hS h4a h4b h4c => ?_) (fun v2 u3 ga8 gb9 H locs h4 hP hD hS => ?_)
  · have h4q : q1.1 = xc E5 := by rw [← eq1, h4.1]
    obtain rfl : q1.2.2 = u3 := by rw [← eq1, h4.1]
    have hP : va_P D vwCl ((a0, .inl (y 4, 1, .inr (.inl od))) :: (a1, .inr (4, [.ref a2, .ref a3, .ref a4, .ref a5, .ref a6])) :: (a2, .inr (3, [.ref a7, .int tn])) :: (a7, .inl (y 1, 120, .inl tf)) :: (a3, soF a8 a9 q1.2.2.1) :: (a8, soV y q1.2.2.1) :: (a9, soW y q1.2.2.1) :: (a4, soF a10 a11 rc) :: (a10, soV y rc) :: (a11, soW y rc) :: (a5, .inr (0, [.ref a12, .int q1.2.2.2.1, .int q1.2.2.2.2])) :: (a12, .inl (y 3, 14, .inr (.inr (.inr (.inr (gRf ga8 hq)))))) :: (a6, .inr (1, [.ref a13, .ref a14])) :: (a13, .inl (y 3, 2, .inr (.inr (.inr (.inr (gRf gb9 lq)))))) :: (a14, .inl (y 2, 2, .inl lfl)) :: gTail y ga8 gb9 hq lq) H := hP
    have hD : va_D A ((a0, .inl (y 4, 1, .inr (.inl od))) :: (a1, .inr (4, [.ref a2, .ref a3, .ref a4, .ref a5, .ref a6])) :: (a2, .inr (3, [.ref a7, .int tn])) :: (a7, .inl (y 1, 120, .inl tf)) :: (a3, soF a8 a9 q1.2.2.1) :: (a8, soV y q1.2.2.1) :: (a9, soW y q1.2.2.1) :: (a4, soF a10 a11 rc) :: (a10, soV y rc) :: (a11, soW y rc) :: (a5, .inr (0, [.ref a12, .int q1.2.2.2.1, .int q1.2.2.2.2])) :: (a12, .inl (y 3, 14, .inr (.inr (.inr (.inr (gRf ga8 hq)))))) :: (a6, .inr (1, [.ref a13, .ref a14])) :: (a13, .inl (y 3, 2, .inr (.inr (.inr (.inr (gRf gb9 lq)))))) :: (a14, .inl (y 2, 2, .inl lfl)) :: gTail y ga8 gb9 hq lq) := hD
    obtain ⟨T10, hT10⟩ : ∃ T : va_W, gTail y ga8 gb9 hq lq = T := ⟨_, rfl⟩
    rw [hT10] at hP hD
    rcases xc_E h4.2 with rfl | rfl | rfl
    · rw [xc_IA] at h4q
      have hc := cd_X5_undo tn tf r rc qz qn hq lq lfl
      rw [eq1, h4q] at hc
      exact absurd hc (by decide)
    · rw [xc_IS] at h4q
      have hF := hF.trans (if_neg (show ¬ q1.1 = 0 by rw [h4q]; decide))
      refine vx_catch hown (tableOf []) ⟨0, 8, 11, 15⟩ (tableOf []) (htab.trans rfl) (fun z hz => nomatch hz) (by decide) (by decide) w_0 (hXE.1.1.2.1.use rfl) h4a h4b h4c ?_
      refine W.eq (g2 := F0 m 11 ls [.ref a97]) rfl ?_
      refine lv_astore_n (lv' := [(2, .ref a97), (0, .ref a1), (1, .ref a0)]) hx hb dL_undo_11 rfl hl (by decide) rfl (fun ls hl => ?_)
      refine lv_iconst (v := 1) hx hb dL_undo_12 (by decide) ?_
      refine W.widen (k := 2) (n := 12) (Nat.le_of_ble_eq_true rfl) (Nat.le_of_ble_eq_true rfl) ?_
      refine vx_ret ?_
      rw [← hT10] at hP hD
      exact W.iret (v := 1) hx hb hr (fun t ht hW => ⟨⟨1, ⟨q1.2.2.1, q1.2.2.2.1, q1.2.2.2.2, od⟩, rfl, hF, ⟨ga8, gb9, by rw [ht]; exact hP, hD⟩⟩, hS.F ht⟩) hS.2.2 dL_undo_13
    · rw [xc_IO] at h4q
      have hc := cd_X5_undo tn tf r rc qz qn hq lq lfl
      rw [eq1, h4q] at hc
      exact absurd hc (by decide)
  · have h4q : q1.1 = 0 := by rw [← eq1, h4]
    obtain ⟨rfl, rfl⟩ : q1.2.1 = v2 ∧ q1.2.2 = u3 := ⟨by rw [← eq1, h4], by rw [← eq1, h4]⟩
    have hP : va_P D vwCl ((a0, .inl (y 4, 1, .inr (.inl od))) :: (a1, .inr (4, [.ref a2, .ref a3, .ref a4, .ref a5, .ref a6])) :: (a2, .inr (3, [.ref a7, .int tn])) :: (a7, .inl (y 1, 120, .inl tf)) :: (a3, soF a8 a9 q1.2.2.1) :: (a8, soV y q1.2.2.1) :: (a9, soW y q1.2.2.1) :: (a4, soF a10 a11 rc) :: (a10, soV y rc) :: (a11, soW y rc) :: (a5, .inr (0, [.ref a12, .int q1.2.2.2.1, .int q1.2.2.2.2])) :: (a12, .inl (y 3, 14, .inr (.inr (.inr (.inr (gRf ga8 hq)))))) :: (a6, .inr (1, [.ref a13, .ref a14])) :: (a13, .inl (y 3, 2, .inr (.inr (.inr (.inr (gRf gb9 lq)))))) :: (a14, .inl (y 2, 2, .inl lfl)) :: gTail y ga8 gb9 hq lq) H := hP
    have hD : va_D A ((a0, .inl (y 4, 1, .inr (.inl od))) :: (a1, .inr (4, [.ref a2, .ref a3, .ref a4, .ref a5, .ref a6])) :: (a2, .inr (3, [.ref a7, .int tn])) :: (a7, .inl (y 1, 120, .inl tf)) :: (a3, soF a8 a9 q1.2.2.1) :: (a8, soV y q1.2.2.1) :: (a9, soW y q1.2.2.1) :: (a4, soF a10 a11 rc) :: (a10, soV y rc) :: (a11, soW y rc) :: (a5, .inr (0, [.ref a12, .int q1.2.2.2.1, .int q1.2.2.2.2])) :: (a12, .inl (y 3, 14, .inr (.inr (.inr (.inr (gRf ga8 hq)))))) :: (a6, .inr (1, [.ref a13, .ref a14])) :: (a13, .inl (y 3, 2, .inr (.inr (.inr (.inr (gRf gb9 lq)))))) :: (a14, .inl (y 2, 2, .inl lfl)) :: gTail y ga8 gb9 hq lq) := hD
    obtain ⟨T11, hT11⟩ : ∃ T : va_W, gTail y ga8 gb9 hq lq = T := ⟨_, rfl⟩
    rw [hT11] at hP hD
    have hF := hF.trans (if_pos h4q)
    refine lv_i2l (v := q1.2.1.toInt64) hx hb dL_undo_6 rfl ?_
    refine va_last hx hb hE.1 hP hD hS 0 4 rfl rfl (xin (by decide)) dL_undo_7 (fun H locs hP hD hS => ?_)
    have hP : va_P D vwCl ((a0, .inl (y 4, 1, .inr (.inl (vp_updL od ((0 : Int32).toNatClampNeg) q1.2.1.toInt64)))) :: (a1, .inr (4, [.ref a2, .ref a3, .ref a4, .ref a5, .ref a6])) :: (a2, .inr (3, [.ref a7, .int tn])) :: (a7, .inl (y 1, 120, .inl tf)) :: (a3, soF a8 a9 q1.2.2.1) :: (a8, soV y q1.2.2.1) :: (a9, soW y q1.2.2.1) :: (a4, soF a10 a11 rc) :: (a10, soV y rc) :: (a11, soW y rc) :: (a5, .inr (0, [.ref a12, .int q1.2.2.2.1, .int q1.2.2.2.2])) :: (a12, .inl (y 3, 14, .inr (.inr (.inr (.inr (gRf ga8 hq)))))) :: (a6, .inr (1, [.ref a13, .ref a14])) :: (a13, .inl (y 3, 2, .inr (.inr (.inr (.inr (gRf gb9 lq)))))) :: (a14, .inl (y 2, 2, .inl lfl)) :: T11) H := hP
    have hD : va_D A ((a0, .inl (y 4, 1, .inr (.inl (vp_updL od ((0 : Int32).toNatClampNeg) q1.2.1.toInt64)))) :: (a1, .inr (4, [.ref a2, .ref a3, .ref a4, .ref a5, .ref a6])) :: (a2, .inr (3, [.ref a7, .int tn])) :: (a7, .inl (y 1, 120, .inl tf)) :: (a3, soF a8 a9 q1.2.2.1) :: (a8, soV y q1.2.2.1) :: (a9, soW y q1.2.2.1) :: (a4, soF a10 a11 rc) :: (a10, soV y rc) :: (a11, soW y rc) :: (a5, .inr (0, [.ref a12, .int q1.2.2.2.1, .int q1.2.2.2.2])) :: (a12, .inl (y 3, 14, .inr (.inr (.inr (.inr (gRf ga8 hq)))))) :: (a6, .inr (1, [.ref a13, .ref a14])) :: (a13, .inl (y 3, 2, .inr (.inr (.inr (.inr (gRf gb9 lq)))))) :: (a14, .inl (y 2, 2, .inl lfl)) :: T11) := hD
    refine lv_goto (tgt := 14) hx hb dL_undo_8 (by decide) ?_
    refine lv_iconst (v := 0) hx hb dL_undo_14 (by decide) ?_
    refine W.widen (k := 2) (n := 12) (Nat.le_of_ble_eq_true rfl) (Nat.le_of_ble_eq_true rfl) ?_
    refine vx_ret ?_
    rw [← hT11] at hP hD
    exact W.iret (v := 0) hx hb hr (fun t ht hW => ⟨⟨0, ⟨q1.2.2.1, q1.2.2.2.1, q1.2.2.2.2, (vp_updL od ((0 : Int32).toNatClampNeg) q1.2.1.toInt64)⟩, rfl, hF, ⟨ga8, gb9, by rw [ht]; exact hP, hD⟩⟩, hS.F ht⟩) hS.2.2 dL_undo_15
