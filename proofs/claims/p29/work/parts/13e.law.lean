/-! THE LAW'S OWN METHODS, 4 -/

def f_L_call (tn : Int32) (tf : Nat → Int32) (r : gR) (rc : gR) (qz : Int32) (qn : Int32) (hq : Nat → Option gR) (lq : Nat → Option gR) (lfl : Nat → Int32) (p1 : Int32) (p2 : Int32) (p3 : Int32) (p4 : Int32) : Int32 × Int32 × (Nat → Int32) × gR × gR × Int32 × Int32 × (Nat → Option gR) × (Nat → Option gR) × (Nat → Int32) :=
    if p1 = 0 then
    gLet (f_L_tryAppend tn tf p2) (fun (q5 : Int32 × Int32 × (Nat → Int32)) =>
      (q5.1, q5.2.1, q5.2.2, r, rc, qz, qn, hq, lq, lfl))
  else
    if p1 = 1 then
      gLet (f_L_tryLoad tn tf r qz qn lfl) (fun (q10 : Int32 × gR × Int32 × (Nat → Int32)) =>
        (q10.1, tn, tf, q10.2.1, rc, q10.2.2.1, qn, hq, lq, q10.2.2.2))
    else
      if p1 = 2 then
        gLet (f_L_tryAbout r p2) (fun (q15 : Int32) =>
          (q15, tn, tf, r, rc, qz, qn, hq, lq, lfl))
      else
        if p1 = 3 then
          gLet (f_L_tryRead r p2) (fun (q20 : Int32) =>
            (q20, tn, tf, r, rc, qz, qn, hq, lq, lfl))
        else
          if p1 = 4 then
            gLet (f_L_tryPlace r p2) (fun (q25 : Int32) =>
              (q25, tn, tf, r, rc, qz, qn, hq, lq, lfl))
          else
            if p1 = 5 then
              gLet (f_L_tryLine r p2) (fun (q30 : Int32) =>
                (q30, tn, tf, r, rc, qz, qn, hq, lq, lfl))
            else
              if p1 = 6 then
                gLet (f_L_tryWear r p2) (fun (q35 : Int32) =>
                  (q35, tn, tf, r, rc, qz, qn, hq, lq, lfl))
              else
                if p1 = 7 then
                  gLet (f_L_trySetting r p2) (fun (q40 : Int32) =>
                    (q40, tn, tf, r, rc, qz, qn, hq, lq, lfl))
                else
                  if p1 = 8 then
                    gLet (f_L_tryMake tn tf r rc qz qn hq lq lfl p2 p3 p4) (fun (q47 : Int32 × gR × (Nat → Option gR) × Int32 × Int32) =>
                      (q47.1, tn, tf, q47.2.1, rc, q47.2.2.2.1, q47.2.2.2.2, q47.2.2.1, lq, lfl))
                  else
                    if p1 = 9 then
                      gLet (f_L_tryWrite tn tf r rc qz qn hq lq lfl p2 p3) (fun (q55 : Int32 × gR × (Nat → Option gR) × Int32 × Int32) =>
                        (q55.1, tn, tf, q55.2.1, rc, q55.2.2.2.1, q55.2.2.2.2, q55.2.2.1, lq, lfl))
                    else
                      if p1 = 10 then
                        gLet (f_L_tryHammer tn tf r rc qz qn hq lq lfl p2 p3) (fun (q63 : Int32 × gR × (Nat → Option gR) × Int32 × Int32) =>
                          (q63.1, tn, tf, q63.2.1, rc, q63.2.2.2.1, q63.2.2.2.2, q63.2.2.1, lq, lfl))
                      else
                        if p1 = 11 then
                          gLet (f_L_tryAll tn tf r rc qz qn hq lq lfl p2) (fun (q71 : Int32 × gR × (Nat → Option gR) × Int32 × Int32) =>
                            (q71.1, tn, tf, q71.2.1, rc, q71.2.2.2.1, q71.2.2.2.2, q71.2.2.1, lq, lfl))
                        else
                          if p1 = 12 then
                            gLet (f_L_tryLay tn tf r rc qz qn hq lq lfl p2 p3) (fun (q79 : Int32 × gR × (Nat → Option gR) × Int32 × Int32) =>
                              (q79.1, tn, tf, q79.2.1, rc, q79.2.2.2.1, q79.2.2.2.2, q79.2.2.1, lq, lfl))
                          else
                            if p1 = 13 then
                              gLet (f_L_tryUndo tn tf r rc qz qn hq lq lfl) (fun (q87 : Int32 × gR × Int32 × Int32) =>
                                (q87.1, tn, tf, q87.2.1, rc, q87.2.2.1, q87.2.2.2, hq, lq, lfl))
                            else
                              if p1 = 14 then
                                gLet (f_L_tryLife r rc p2) (fun (q93 : Int32 × gR) =>
                                  (q93.1, tn, tf, r, q93.2, qz, qn, hq, lq, lfl))
                              else
                                if p1 = 15 then
                                  gLet (f_L_tryLong r rc) (fun (q98 : Int32 × gR) =>
                                    (q98.1, tn, tf, r, q98.2, qz, qn, hq, lq, lfl))
                                else
                                  if p1 = 16 then
                                    gLet (f_L_tryEvery r rc p2 p3 p4) (fun (q103 : Int32 × gR) =>
                                      (q103.1, tn, tf, r, q103.2, qz, qn, hq, lq, lfl))
                                  else
                                    if p1 = 17 then
                                      gLet (f_L_tryBest r rc p2 p3) (fun (q108 : Int32 × gR) =>
                                        (q108.1, tn, tf, r, q108.2, qz, qn, hq, lq, lfl))
                                    else
                                      if p1 = 18 then
                                        gLet (f_L_tryMoves r p2) (fun (q113 : Int32) =>
                                          (q113, tn, tf, r, rc, qz, qn, hq, lq, lfl))
                                      else
                                        if p1 = 19 then
                                          gLet (f_L_tryBehind r p2 p3) (fun (q118 : Int32) =>
                                            (q118, tn, tf, r, rc, qz, qn, hq, lq, lfl))
                                        else
                                          if p1 = 20 then
                                            gLet (f_L_tryKeep tn tf r rc qz qn hq lq lfl p2) (fun (q125 : Int32 × (Nat → Option gR) × (Nat → Int32)) =>
                                              (q125.1, tn, tf, r, rc, qz, qn, hq, q125.2.1, q125.2.2))
                                          else
                                            gLet (f_L_tryBack tn tf r rc qz qn hq lq lfl p2) (fun (q132 : Int32 × gR × Int32) =>
                                              (q132.1, tn, tf, q132.2.1, rc, q132.2.2, qn, hq, lq, lfl))
theorem f_L_call_s (tn : Int32) (tf : Nat → Int32) (r : gR) (rc : gR) (qz : Int32) (qn : Int32) (hq : Nat → Option gR) (lq : Nat → Option gR) (lfl : Nat → Int32) (p1 : Int32) (p2 : Int32) (p3 : Int32) (p4 : Int32) : f_L_call tn tf r rc qz qn hq lq lfl p1 p2 p3 p4 =
    (if p1 = 0 then
    gLet (f_L_tryAppend tn tf p2) (fun (q5 : Int32 × Int32 × (Nat → Int32)) =>
      (q5.1, q5.2.1, q5.2.2, r, rc, qz, qn, hq, lq, lfl))
  else
    if p1 = 1 then
      gLet (f_L_tryLoad tn tf r qz qn lfl) (fun (q10 : Int32 × gR × Int32 × (Nat → Int32)) =>
        (q10.1, tn, tf, q10.2.1, rc, q10.2.2.1, qn, hq, lq, q10.2.2.2))
    else
      if p1 = 2 then
        gLet (f_L_tryAbout r p2) (fun (q15 : Int32) =>
          (q15, tn, tf, r, rc, qz, qn, hq, lq, lfl))
      else
        if p1 = 3 then
          gLet (f_L_tryRead r p2) (fun (q20 : Int32) =>
            (q20, tn, tf, r, rc, qz, qn, hq, lq, lfl))
        else
          if p1 = 4 then
            gLet (f_L_tryPlace r p2) (fun (q25 : Int32) =>
              (q25, tn, tf, r, rc, qz, qn, hq, lq, lfl))
          else
            if p1 = 5 then
              gLet (f_L_tryLine r p2) (fun (q30 : Int32) =>
                (q30, tn, tf, r, rc, qz, qn, hq, lq, lfl))
            else
              if p1 = 6 then
                gLet (f_L_tryWear r p2) (fun (q35 : Int32) =>
                  (q35, tn, tf, r, rc, qz, qn, hq, lq, lfl))
              else
                if p1 = 7 then
                  gLet (f_L_trySetting r p2) (fun (q40 : Int32) =>
                    (q40, tn, tf, r, rc, qz, qn, hq, lq, lfl))
                else
                  if p1 = 8 then
                    gLet (f_L_tryMake tn tf r rc qz qn hq lq lfl p2 p3 p4) (fun (q47 : Int32 × gR × (Nat → Option gR) × Int32 × Int32) =>
                      (q47.1, tn, tf, q47.2.1, rc, q47.2.2.2.1, q47.2.2.2.2, q47.2.2.1, lq, lfl))
                  else
                    if p1 = 9 then
                      gLet (f_L_tryWrite tn tf r rc qz qn hq lq lfl p2 p3) (fun (q55 : Int32 × gR × (Nat → Option gR) × Int32 × Int32) =>
                        (q55.1, tn, tf, q55.2.1, rc, q55.2.2.2.1, q55.2.2.2.2, q55.2.2.1, lq, lfl))
                    else
                      if p1 = 10 then
                        gLet (f_L_tryHammer tn tf r rc qz qn hq lq lfl p2 p3) (fun (q63 : Int32 × gR × (Nat → Option gR) × Int32 × Int32) =>
                          (q63.1, tn, tf, q63.2.1, rc, q63.2.2.2.1, q63.2.2.2.2, q63.2.2.1, lq, lfl))
                      else
                        if p1 = 11 then
                          gLet (f_L_tryAll tn tf r rc qz qn hq lq lfl p2) (fun (q71 : Int32 × gR × (Nat → Option gR) × Int32 × Int32) =>
                            (q71.1, tn, tf, q71.2.1, rc, q71.2.2.2.1, q71.2.2.2.2, q71.2.2.1, lq, lfl))
                        else
                          if p1 = 12 then
                            gLet (f_L_tryLay tn tf r rc qz qn hq lq lfl p2 p3) (fun (q79 : Int32 × gR × (Nat → Option gR) × Int32 × Int32) =>
                              (q79.1, tn, tf, q79.2.1, rc, q79.2.2.2.1, q79.2.2.2.2, q79.2.2.1, lq, lfl))
                          else
                            if p1 = 13 then
                              gLet (f_L_tryUndo tn tf r rc qz qn hq lq lfl) (fun (q87 : Int32 × gR × Int32 × Int32) =>
                                (q87.1, tn, tf, q87.2.1, rc, q87.2.2.1, q87.2.2.2, hq, lq, lfl))
                            else
                              if p1 = 14 then
                                gLet (f_L_tryLife r rc p2) (fun (q93 : Int32 × gR) =>
                                  (q93.1, tn, tf, r, q93.2, qz, qn, hq, lq, lfl))
                              else
                                if p1 = 15 then
                                  gLet (f_L_tryLong r rc) (fun (q98 : Int32 × gR) =>
                                    (q98.1, tn, tf, r, q98.2, qz, qn, hq, lq, lfl))
                                else
                                  if p1 = 16 then
                                    gLet (f_L_tryEvery r rc p2 p3 p4) (fun (q103 : Int32 × gR) =>
                                      (q103.1, tn, tf, r, q103.2, qz, qn, hq, lq, lfl))
                                  else
                                    if p1 = 17 then
                                      gLet (f_L_tryBest r rc p2 p3) (fun (q108 : Int32 × gR) =>
                                        (q108.1, tn, tf, r, q108.2, qz, qn, hq, lq, lfl))
                                    else
                                      if p1 = 18 then
                                        gLet (f_L_tryMoves r p2) (fun (q113 : Int32) =>
                                          (q113, tn, tf, r, rc, qz, qn, hq, lq, lfl))
                                      else
                                        if p1 = 19 then
                                          gLet (f_L_tryBehind r p2 p3) (fun (q118 : Int32) =>
                                            (q118, tn, tf, r, rc, qz, qn, hq, lq, lfl))
                                        else
                                          if p1 = 20 then
                                            gLet (f_L_tryKeep tn tf r rc qz qn hq lq lfl p2) (fun (q125 : Int32 × (Nat → Option gR) × (Nat → Int32)) =>
                                              (q125.1, tn, tf, r, rc, qz, qn, hq, q125.2.1, q125.2.2))
                                          else
                                            gLet (f_L_tryBack tn tf r rc qz qn hq lq lfl p2) (fun (q132 : Int32 × gR × Int32) =>
                                              (q132.1, tn, tf, q132.2.1, rc, q132.2.2, qn, hq, lq, lfl))) := rfl
theorem hd_L_call : yL_call.cls ≠ "java/lang/invoke/MethodHandle" ∧ yL_call.cls ≠ "java/lang/invoke/VarHandle" ∧ (parseMethodDescriptor yL_call.desc).map (fun d => d.parameters.length) = some 5 := by decide +kernel
set_option maxHeartbeats 4000000 in
set_option maxRecDepth 100000 in
theorem c_L_call (l : Launch) (hst : l.stackTraces = false) (D : va_G) (y : Nat → ClassId) (a0 a1 a2 a3 a4 a5 a6 a7 a8 a9 a10 a11 a12 a13 : Nat) (ga gb : Nat → Nat × Nat × Nat) (zh : Nat) (tn : Int32) (tf : Nat → Int32) (r : gR) (rc : gR) (qz : Int32) (qn : Int32) (hq : Nat → Option gR) (lq : Nat → Option gR) (lfl : Nat → Int32) (p1 : Int32) (p2 : Int32) (p3 : Int32) (p4 : Int32) (hh : 0 ≤ qn.toInt ∧ qn.toInt < (14 : Nat)) (ho : okC r) (ht : okT tn tf) (hoq : okQ hq) (hlq : okQ lq) : Met l yL_call wsL_call ({ frames := 9, cells := 5, slots := 92, locals := 178 }) (lP D y [.ref a0, .int p1, .int p2, .int p3, .int p4] zh ((a0, .inr (4, [.ref a1, .ref a2, .ref a3, .ref a4, .ref a5])) :: (a1, .inr (3, [.ref a6, .int tn])) :: (a6, .inl (y 1, 120, .inl tf)) :: (a2, soF a7 a8 r) :: (a7, soV y r) :: (a8, soW y r) :: (a3, soF a9 a10 rc) :: (a9, soV y rc) :: (a10, soW y rc) :: (a4, .inr (0, [.ref a11, .int qz, .int qn])) :: (a11, .inl (y 3, 14, .inr (.inr (.inr (.inr (gRf ga hq)))))) :: (a5, .inr (1, [.ref a12, .ref a13])) :: (a12, .inl (y 3, 2, .inr (.inr (.inr (.inr (gRf gb lq)))))) :: (a13, .inl (y 2, 2, .inl lfl)) :: gTail y ga gb hq lq)) (va_Qi (fun (v : Int32) (u : Int32 × (Nat → Int32) × gR × gR × Int32 × Int32 × (Nat → Option gR) × (Nat → Option gR) × (Nat → Int32)) => f_L_call tn tf r rc qz qn hq lq lfl p1 p2 p3 p4 = (v, u)) (fun (u : Int32 × (Nat → Int32) × gR × gR × Int32 × Int32 × (Nat → Option gR) × (Nat → Option gR) × (Nat → Int32)) t => ∃ (g1 g2 : Nat → Nat × Nat × Nat), va_P D vwCl ((a0, .inr (4, [.ref a1, .ref a2, .ref a3, .ref a4, .ref a5])) :: (a1, .inr (3, [.ref a6, .int u.1])) :: (a6, .inl (y 1, 120, .inl u.2.1)) :: (a2, soF a7 a8 u.2.2.1) :: (a7, soV y u.2.2.1) :: (a8, soW y u.2.2.1) :: (a3, soF a9 a10 u.2.2.2.1) :: (a9, soV y u.2.2.2.1) :: (a10, soW y u.2.2.2.1) :: (a4, .inr (0, [.ref a11, .int u.2.2.2.2.1, .int u.2.2.2.2.2.1])) :: (a11, .inl (y 3, 14, .inr (.inr (.inr (.inr (gRf g1 u.2.2.2.2.2.2.1)))))) :: (a5, .inr (1, [.ref a12, .ref a13])) :: (a12, .inl (y 3, 2, .inr (.inr (.inr (.inr (gRf g2 u.2.2.2.2.2.2.2.1)))))) :: (a13, .inl (y 2, 2, .inl u.2.2.2.2.2.2.2.2)) :: gTail y g1 g2 u.2.2.2.2.2.2.1 u.2.2.2.2.2.2.2.1) t.heap ∧ va_D (va_A ((a0, .inr (4, [.ref a1, .ref a2, .ref a3, .ref a4, .ref a5])) :: (a1, .inr (3, [.ref a6, .int tn])) :: (a6, .inl (y 1, 120, .inl tf)) :: (a2, soF a7 a8 r) :: (a7, soV y r) :: (a8, soW y r) :: (a3, soF a9 a10 rc) :: (a9, soV y rc) :: (a10, soW y rc) :: (a4, .inr (0, [.ref a11, .int qz, .int qn])) :: (a11, .inl (y 3, 14, .inr (.inr (.inr (.inr (gRf ga hq)))))) :: (a5, .inr (1, [.ref a12, .ref a13])) :: (a12, .inl (y 3, 2, .inr (.inr (.inr (.inr (gRf gb lq)))))) :: (a13, .inl (y 2, 2, .inl lfl)) :: gTail y ga gb hq lq) zh) ((a0, .inr (4, [.ref a1, .ref a2, .ref a3, .ref a4, .ref a5])) :: (a1, .inr (3, [.ref a6, .int u.1])) :: (a6, .inl (y 1, 120, .inl u.2.1)) :: (a2, soF a7 a8 u.2.2.1) :: (a7, soV y u.2.2.1) :: (a8, soW y u.2.2.1) :: (a3, soF a9 a10 u.2.2.2.1) :: (a9, soV y u.2.2.2.1) :: (a10, soW y u.2.2.2.1) :: (a4, .inr (0, [.ref a11, .int u.2.2.2.2.1, .int u.2.2.2.2.2.1])) :: (a11, .inl (y 3, 14, .inr (.inr (.inr (.inr (gRf g1 u.2.2.2.2.2.2.1)))))) :: (a5, .inr (1, [.ref a12, .ref a13])) :: (a12, .inl (y 3, 2, .inr (.inr (.inr (.inr (gRf g2 u.2.2.2.2.2.2.2.1)))))) :: (a13, .inl (y 2, 2, .inl u.2.2.2.2.2.2.2.2)) :: gTail y g1 g2 u.2.2.2.2.2.2.1 u.2.2.2.2.2.2.2.1)) (va_A ((a0, .inr (4, [.ref a1, .ref a2, .ref a3, .ref a4, .ref a5])) :: (a1, .inr (3, [.ref a6, .int tn])) :: (a6, .inl (y 1, 120, .inl tf)) :: (a2, soF a7 a8 r) :: (a7, soV y r) :: (a8, soW y r) :: (a3, soF a9 a10 rc) :: (a9, soV y rc) :: (a10, soW y rc) :: (a4, .inr (0, [.ref a11, .int qz, .int qn])) :: (a11, .inl (y 3, 14, .inr (.inr (.inr (.inr (gRf ga hq)))))) :: (a5, .inr (1, [.ref a12, .ref a13])) :: (a12, .inl (y 3, 2, .inr (.inr (.inr (.inr (gRf gb lq)))))) :: (a13, .inl (y 2, 2, .inl lfl)) :: gTail y ga gb hq lq) zh)) 5 92 (va_A ((a0, .inr (4, [.ref a1, .ref a2, .ref a3, .ref a4, .ref a5])) :: (a1, .inr (3, [.ref a6, .int tn])) :: (a6, .inl (y 1, 120, .inl tf)) :: (a2, soF a7 a8 r) :: (a7, soV y r) :: (a8, soW y r) :: (a3, soF a9 a10 rc) :: (a9, soV y rc) :: (a10, soW y rc) :: (a4, .inr (0, [.ref a11, .int qz, .int qn])) :: (a11, .inl (y 3, 14, .inr (.inr (.inr (.inr (gRf ga hq)))))) :: (a5, .inr (1, [.ref a12, .ref a13])) :: (a12, .inl (y 3, 2, .inr (.inr (.inr (.inr (gRf gb lq)))))) :: (a13, .inl (y 2, 2, .inl lfl)) :: gTail y ga gb hq lq) zh) := by
  refine Met.ofW (cc := cL_call) (maxL := 5) (ret := (some .int)) (by decide) rfl ?_
  intro p e s m args below meth c s₁ B hml hv
  obtain ⟨⟨⟨rfl, hsz, hP, hE, hD⟩, hXE, hXZ⟩, hLN⟩ := hv
  have hx := B.exec
  have hb := B.bytes
  have hr := B.returns
  have hts := atoms_spec (ws := wsL_call) B.pre
  have hown : s.vm.findClass RL = some m.cls := findClass_of_methodNamed B.named
  have hlocks := B.notSynchronized
  subst hsz
  have hD := hD.self (sz := s.heap.size)
  generalize hAe : va_A ((a0, .inr (4, [.ref a1, .ref a2, .ref a3, .ref a4, .ref a5])) :: (a1, .inr (3, [.ref a6, .int tn])) :: (a6, .inl (y 1, 120, .inl tf)) :: (a2, soF a7 a8 r) :: (a7, soV y r) :: (a8, soW y r) :: (a3, soF a9 a10 rc) :: (a9, soV y rc) :: (a10, soW y rc) :: (a4, .inr (0, [.ref a11, .int qz, .int qn])) :: (a11, .inl (y 3, 14, .inr (.inr (.inr (.inr (gRf ga hq)))))) :: (a5, .inr (1, [.ref a12, .ref a13])) :: (a12, .inl (y 3, 2, .inr (.inr (.inr (.inr (gRf gb lq)))))) :: (a13, .inl (y 2, 2, .inl lfl)) :: gTail y ga gb hq lq) s.heap.size = A at hD hXZ ⊢
  have hA : ∀ q : Nat, s.heap.size ≤ q → A q := fun q h => by rw [← hAe]; exact Or.inr h
  have hS : va_S A s.heap s.heap [] := va_S.rf
  have hl := lv_entry ([.ref a0, .int p1, .int p2, .int p3, .int p4]) (n := 5) (Nat.le_of_ble_eq_true rfl)
  rw [lg_entry_eq]
  generalize (lg_sl ([.ref a0, .int p1, .int p2, .int p3, .int p4]) ++ List.replicate (5 - (lg_sl ([.ref a0, .int p1, .int p2, .int p3, .int p4])).length) Slot.unset).toArray = ls at hl ⊢
  have hl : lv_has ls 5 [(0, .ref a0), (1, .int p1), (2, .int p2), (3, .int p3), (4, .int p4)] := hl
  have hF := f_L_call_s tn tf r rc qz qn hq lq lfl p1 p2 p3 p4
  obtain ⟨T, hT⟩ : ∃ T : va_W, gTail y ga gb hq lq = T := ⟨_, rfl⟩
  rw [hT] at hP hD
  refine lv_iload_n hx hb dL_call_0 rfl (lv_at hl 1 rfl) ?_
  by_cases c_1 : p1 = 0
  · have hF := hF.trans (if_pos c_1)
    refine lv_tableIn (off := 99) (tgt := 100) hx hb dL_call_1 (by rw [c_1]; decide) (by rw [c_1]; decide) (by rw [c_1]; rfl) (by decide) ?_
    refine lv_aload_n hx hb dL_call_100 rfl (lv_at hl 0 rfl) ?_
    refine lv_iload_n hx hb dL_call_101 rfl (lv_at hl 2 rfl) ?_
    refine xl_calli (vx_runSW (As := [.ref a0, .int p2]) (rest := []) ⟨hx, hb, hml, hown, hts⟩ (c_L_tryAppend l hst D y a0 a1 a2 a3 a4 a5 a6 s.heap.size tn tf p2 ht) (vx_cwSW 2 hts gL_call_L_tryAppend rfl rfl rfl hd_L_tryAppend ⟨Nat.le_of_ble_eq_true rfl, Nat.le_of_ble_eq_true rfl⟩) (lS hE hXE hLN hXZ hS hA (hP.sub [0, 1, 2] rfl) (hD.sub [0, 1, 2] (by decide) rfl)) rfl rfl hl.1 rfl (lv_room (Nat.le_of_ble_eq_true rfl)) dL_call_102 ⟨Nat.le_of_ble_eq_true rfl, Nat.le_of_ble_eq_true rfl⟩) hP hD hS hA [0, 1, 2] rfl (by decide) (fun _ => rfl) (fun v4 u3 H locs h2 hP hD hS => ?_)
    obtain ⟨q5, eq5⟩ : ∃ z : Int32 × Int32 × (Nat → Int32), f_L_tryAppend tn tf p2 = z := ⟨_, rfl⟩
    obtain ⟨rfl, rfl⟩ : q5.1 = v4 ∧ q5.2 = u3 := ⟨by rw [← eq5, h2], by rw [← eq5, h2]⟩
    have hF := hF.trans (gLet_e eq5)
    have hP : va_P D vwCl ((a0, .inr (4, [.ref a1, .ref a2, .ref a3, .ref a4, .ref a5])) :: (a1, .inr (3, [.ref a6, .int q5.2.1])) :: (a6, .inl (y 1, 120, .inl q5.2.2)) :: (a2, soF a7 a8 r) :: (a7, soV y r) :: (a8, soW y r) :: (a3, soF a9 a10 rc) :: (a9, soV y rc) :: (a10, soW y rc) :: (a4, .inr (0, [.ref a11, .int qz, .int qn])) :: (a11, .inl (y 3, 14, .inr (.inr (.inr (.inr (gRf ga hq)))))) :: (a5, .inr (1, [.ref a12, .ref a13])) :: (a12, .inl (y 3, 2, .inr (.inr (.inr (.inr (gRf gb lq)))))) :: (a13, .inl (y 2, 2, .inl lfl)) :: T) H := hP
    have hD : va_D A ((a0, .inr (4, [.ref a1, .ref a2, .ref a3, .ref a4, .ref a5])) :: (a1, .inr (3, [.ref a6, .int q5.2.1])) :: (a6, .inl (y 1, 120, .inl q5.2.2)) :: (a2, soF a7 a8 r) :: (a7, soV y r) :: (a8, soW y r) :: (a3, soF a9 a10 rc) :: (a9, soV y rc) :: (a10, soW y rc) :: (a4, .inr (0, [.ref a11, .int qz, .int qn])) :: (a11, .inl (y 3, 14, .inr (.inr (.inr (.inr (gRf ga hq)))))) :: (a5, .inr (1, [.ref a12, .ref a13])) :: (a12, .inl (y 3, 2, .inr (.inr (.inr (.inr (gRf gb lq)))))) :: (a13, .inl (y 2, 2, .inl lfl)) :: T) := hD
    refine W.widen (k := 5) (n := 92) (Nat.le_of_ble_eq_true rfl) (Nat.le_of_ble_eq_true rfl) ?_
    rw [← hT] at hP hD
    exact W.iret (v := q5.1) hx hb hr (fun t ht hW => ⟨⟨q5.1, ⟨q5.2.1, q5.2.2, r, rc, qz, qn, hq, lq, lfl⟩, rfl, hF, ⟨ga, gb, by rw [ht]; exact hP, hD⟩⟩, hS.F ht⟩) hS.2.2 dL_call_105
  · have hF := hF.trans (if_neg c_1)
    by_cases c_6 : p1 = 1
    · have hF := hF.trans (if_pos c_6)
      refine lv_tableIn (off := 105) (tgt := 106) hx hb dL_call_1 (by rw [c_6]; decide) (by rw [c_6]; decide) (by rw [c_6]; rfl) (by decide) ?_
      refine lv_aload_n hx hb dL_call_106 rfl (lv_at hl 0 rfl) ?_
      refine xl_calli (vx_runSW (As := [.ref a0]) (rest := []) ⟨hx, hb, hml, hown, hts⟩ (c_L_tryLoad l hst D y a0 a1 a2 a3 a4 a5 a6 a7 a8 a11 a12 a13 s.heap.size tn tf r qz qn lfl ht ho) (vx_cwSW 1 hts gL_call_L_tryLoad rfl rfl rfl hd_L_tryLoad ⟨Nat.le_of_ble_eq_true rfl, Nat.le_of_ble_eq_true rfl⟩) (lS hE hXE hLN hXZ hS hA (hP.sub [0, 1, 2, 3, 4, 5, 9, 11, 13] rfl) (hD.sub [0, 1, 2, 3, 4, 5, 9, 11, 13] (by decide) rfl)) rfl rfl hl.1 rfl (lv_room (Nat.le_of_ble_eq_true rfl)) dL_call_107 ⟨Nat.le_of_ble_eq_true rfl, Nat.le_of_ble_eq_true rfl⟩) hP hD hS hA [0, 1, 2, 3, 4, 5, 9, 11, 13] rfl (by decide) (fun _ => rfl) (fun v9 u8 H locs h7 hP hD hS => ?_)
      obtain ⟨q10, eq10⟩ : ∃ z : Int32 × gR × Int32 × (Nat → Int32), f_L_tryLoad tn tf r qz qn lfl = z := ⟨_, rfl⟩
      obtain ⟨rfl, rfl⟩ : q10.1 = v9 ∧ q10.2 = u8 := ⟨by rw [← eq10, h7], by rw [← eq10, h7]⟩
      have hF := hF.trans (gLet_e eq10)
      have hP : va_P D vwCl ((a0, .inr (4, [.ref a1, .ref a2, .ref a3, .ref a4, .ref a5])) :: (a1, .inr (3, [.ref a6, .int tn])) :: (a6, .inl (y 1, 120, .inl tf)) :: (a2, soF a7 a8 q10.2.1) :: (a7, soV y q10.2.1) :: (a8, soW y q10.2.1) :: (a3, soF a9 a10 rc) :: (a9, soV y rc) :: (a10, soW y rc) :: (a4, .inr (0, [.ref a11, .int q10.2.2.1, .int qn])) :: (a11, .inl (y 3, 14, .inr (.inr (.inr (.inr (gRf ga hq)))))) :: (a5, .inr (1, [.ref a12, .ref a13])) :: (a12, .inl (y 3, 2, .inr (.inr (.inr (.inr (gRf gb lq)))))) :: (a13, .inl (y 2, 2, .inl q10.2.2.2)) :: T) H := hP
      have hD : va_D A ((a0, .inr (4, [.ref a1, .ref a2, .ref a3, .ref a4, .ref a5])) :: (a1, .inr (3, [.ref a6, .int tn])) :: (a6, .inl (y 1, 120, .inl tf)) :: (a2, soF a7 a8 q10.2.1) :: (a7, soV y q10.2.1) :: (a8, soW y q10.2.1) :: (a3, soF a9 a10 rc) :: (a9, soV y rc) :: (a10, soW y rc) :: (a4, .inr (0, [.ref a11, .int q10.2.2.1, .int qn])) :: (a11, .inl (y 3, 14, .inr (.inr (.inr (.inr (gRf ga hq)))))) :: (a5, .inr (1, [.ref a12, .ref a13])) :: (a12, .inl (y 3, 2, .inr (.inr (.inr (.inr (gRf gb lq)))))) :: (a13, .inl (y 2, 2, .inl q10.2.2.2)) :: T) := hD
      refine W.widen (k := 5) (n := 92) (Nat.le_of_ble_eq_true rfl) (Nat.le_of_ble_eq_true rfl) ?_
      rw [← hT] at hP hD
      exact W.iret (v := q10.1) hx hb hr (fun t ht hW => ⟨⟨q10.1, ⟨tn, tf, q10.2.1, rc, q10.2.2.1, qn, hq, lq, q10.2.2.2⟩, rfl, hF, ⟨ga, gb, by rw [ht]; exact hP, hD⟩⟩, hS.F ht⟩) hS.2.2 dL_call_110
    · have hF := hF.trans (if_neg c_6)
      by_cases c_11 : p1 = 2
      · have hF := hF.trans (if_pos c_11)
        refine lv_tableIn (off := 110) (tgt := 111) hx hb dL_call_1 (by rw [c_11]; decide) (by rw [c_11]; decide) (by rw [c_11]; rfl) (by decide) ?_
        refine lv_aload_n hx hb dL_call_111 rfl (lv_at hl 0 rfl) ?_
        refine lv_iload_n hx hb dL_call_112 rfl (lv_at hl 2 rfl) ?_
        refine xl_calli (vx_runSW (As := [.ref a0, .int p2]) (rest := []) ⟨hx, hb, hml, hown, hts⟩ (c_L_tryAbout l hst D y a0 a1 a2 a3 a4 a5 a7 a8 s.heap.size r p2 ho) (vx_cwSW 2 hts gL_call_L_tryAbout rfl rfl rfl hd_L_tryAbout ⟨Nat.le_of_ble_eq_true rfl, Nat.le_of_ble_eq_true rfl⟩) (lS hE hXE hLN hXZ hS hA (hP.sub [0, 3, 4, 5] rfl) (hD.sub [0, 3, 4, 5] (by decide) rfl)) rfl rfl hl.1 rfl (lv_room (Nat.le_of_ble_eq_true rfl)) dL_call_113 ⟨Nat.le_of_ble_eq_true rfl, Nat.le_of_ble_eq_true rfl⟩) hP hD hS hA [0, 3, 4, 5] rfl (by decide) (fun _ => rfl) (fun v14 u13 H locs h12 hP hD hS => ?_)
        obtain ⟨q15, eq15⟩ : ∃ z : Int32, f_L_tryAbout r p2 = z := ⟨_, rfl⟩
        obtain rfl : q15 = v14 := by rw [← eq15, h12]
        have hF := hF.trans (gLet_e eq15)
        have hP : va_P D vwCl ((a0, .inr (4, [.ref a1, .ref a2, .ref a3, .ref a4, .ref a5])) :: (a1, .inr (3, [.ref a6, .int tn])) :: (a6, .inl (y 1, 120, .inl tf)) :: (a2, soF a7 a8 r) :: (a7, soV y r) :: (a8, soW y r) :: (a3, soF a9 a10 rc) :: (a9, soV y rc) :: (a10, soW y rc) :: (a4, .inr (0, [.ref a11, .int qz, .int qn])) :: (a11, .inl (y 3, 14, .inr (.inr (.inr (.inr (gRf ga hq)))))) :: (a5, .inr (1, [.ref a12, .ref a13])) :: (a12, .inl (y 3, 2, .inr (.inr (.inr (.inr (gRf gb lq)))))) :: (a13, .inl (y 2, 2, .inl lfl)) :: T) H := hP
        have hD : va_D A ((a0, .inr (4, [.ref a1, .ref a2, .ref a3, .ref a4, .ref a5])) :: (a1, .inr (3, [.ref a6, .int tn])) :: (a6, .inl (y 1, 120, .inl tf)) :: (a2, soF a7 a8 r) :: (a7, soV y r) :: (a8, soW y r) :: (a3, soF a9 a10 rc) :: (a9, soV y rc) :: (a10, soW y rc) :: (a4, .inr (0, [.ref a11, .int qz, .int qn])) :: (a11, .inl (y 3, 14, .inr (.inr (.inr (.inr (gRf ga hq)))))) :: (a5, .inr (1, [.ref a12, .ref a13])) :: (a12, .inl (y 3, 2, .inr (.inr (.inr (.inr (gRf gb lq)))))) :: (a13, .inl (y 2, 2, .inl lfl)) :: T) := hD
        refine W.widen (k := 5) (n := 92) (Nat.le_of_ble_eq_true rfl) (Nat.le_of_ble_eq_true rfl) ?_
        rw [← hT] at hP hD
        exact W.iret (v := q15) hx hb hr (fun t ht hW => ⟨⟨q15, ⟨tn, tf, r, rc, qz, qn, hq, lq, lfl⟩, rfl, hF, ⟨ga, gb, by rw [ht]; exact hP, hD⟩⟩, hS.F ht⟩) hS.2.2 dL_call_116
      · have hF := hF.trans (if_neg c_11)
        by_cases c_16 : p1 = 3
        · have hF := hF.trans (if_pos c_16)
          refine lv_tableIn (off := 116) (tgt := 117) hx hb dL_call_1 (by rw [c_16]; decide) (by rw [c_16]; decide) (by rw [c_16]; rfl) (by decide) ?_
          refine lv_aload_n hx hb dL_call_117 rfl (lv_at hl 0 rfl) ?_
          refine lv_iload_n hx hb dL_call_118 rfl (lv_at hl 2 rfl) ?_
          refine xl_calli (vx_runSW (As := [.ref a0, .int p2]) (rest := []) ⟨hx, hb, hml, hown, hts⟩ (c_L_tryRead l hst D y a0 a1 a2 a3 a4 a5 a7 a8 s.heap.size r p2 ho) (vx_cwSW 2 hts gL_call_L_tryRead rfl rfl rfl hd_L_tryRead ⟨Nat.le_of_ble_eq_true rfl, Nat.le_of_ble_eq_true rfl⟩) (lS hE hXE hLN hXZ hS hA (hP.sub [0, 3, 4, 5] rfl) (hD.sub [0, 3, 4, 5] (by decide) rfl)) rfl rfl hl.1 rfl (lv_room (Nat.le_of_ble_eq_true rfl)) dL_call_119 ⟨Nat.le_of_ble_eq_true rfl, Nat.le_of_ble_eq_true rfl⟩) hP hD hS hA [0, 3, 4, 5] rfl (by decide) (fun _ => rfl) (fun v19 u18 H locs h17 hP hD hS => ?_)
          obtain ⟨q20, eq20⟩ : ∃ z : Int32, f_L_tryRead r p2 = z := ⟨_, rfl⟩
          obtain rfl : q20 = v19 := by rw [← eq20, h17]
          have hF := hF.trans (gLet_e eq20)
          have hP : va_P D vwCl ((a0, .inr (4, [.ref a1, .ref a2, .ref a3, .ref a4, .ref a5])) :: (a1, .inr (3, [.ref a6, .int tn])) :: (a6, .inl (y 1, 120, .inl tf)) :: (a2, soF a7 a8 r) :: (a7, soV y r) :: (a8, soW y r) :: (a3, soF a9 a10 rc) :: (a9, soV y rc) :: (a10, soW y rc) :: (a4, .inr (0, [.ref a11, .int qz, .int qn])) :: (a11, .inl (y 3, 14, .inr (.inr (.inr (.inr (gRf ga hq)))))) :: (a5, .inr (1, [.ref a12, .ref a13])) :: (a12, .inl (y 3, 2, .inr (.inr (.inr (.inr (gRf gb lq)))))) :: (a13, .inl (y 2, 2, .inl lfl)) :: T) H := hP
          have hD : va_D A ((a0, .inr (4, [.ref a1, .ref a2, .ref a3, .ref a4, .ref a5])) :: (a1, .inr (3, [.ref a6, .int tn])) :: (a6, .inl (y 1, 120, .inl tf)) :: (a2, soF a7 a8 r) :: (a7, soV y r) :: (a8, soW y r) :: (a3, soF a9 a10 rc) :: (a9, soV y rc) :: (a10, soW y rc) :: (a4, .inr (0, [.ref a11, .int qz, .int qn])) :: (a11, .inl (y 3, 14, .inr (.inr (.inr (.inr (gRf ga hq)))))) :: (a5, .inr (1, [.ref a12, .ref a13])) :: (a12, .inl (y 3, 2, .inr (.inr (.inr (.inr (gRf gb lq)))))) :: (a13, .inl (y 2, 2, .inl lfl)) :: T) := hD
          refine W.widen (k := 5) (n := 92) (Nat.le_of_ble_eq_true rfl) (Nat.le_of_ble_eq_true rfl) ?_
          rw [← hT] at hP hD
          exact W.iret (v := q20) hx hb hr (fun t ht hW => ⟨⟨q20, ⟨tn, tf, r, rc, qz, qn, hq, lq, lfl⟩, rfl, hF, ⟨ga, gb, by rw [ht]; exact hP, hD⟩⟩, hS.F ht⟩) hS.2.2 dL_call_122
        · have hF := hF.trans (if_neg c_16)
          by_cases c_21 : p1 = 4
          · have hF := hF.trans (if_pos c_21)
            refine lv_tableIn (off := 122) (tgt := 123) hx hb dL_call_1 (by rw [c_21]; decide) (by rw [c_21]; decide) (by rw [c_21]; rfl) (by decide) ?_
            refine lv_aload_n hx hb dL_call_123 rfl (lv_at hl 0 rfl) ?_
            refine lv_iload_n hx hb dL_call_124 rfl (lv_at hl 2 rfl) ?_
            refine xl_calli (vx_runSW (As := [.ref a0, .int p2]) (rest := []) ⟨hx, hb, hml, hown, hts⟩ (c_L_tryPlace l hst D y a0 a1 a2 a3 a4 a5 a7 a8 s.heap.size r p2 ho) (vx_cwSW 2 hts gL_call_L_tryPlace rfl rfl rfl hd_L_tryPlace ⟨Nat.le_of_ble_eq_true rfl, Nat.le_of_ble_eq_true rfl⟩) (lS hE hXE hLN hXZ hS hA (hP.sub [0, 3, 4, 5] rfl) (hD.sub [0, 3, 4, 5] (by decide) rfl)) rfl rfl hl.1 rfl (lv_room (Nat.le_of_ble_eq_true rfl)) dL_call_125 ⟨Nat.le_of_ble_eq_true rfl, Nat.le_of_ble_eq_true rfl⟩) hP hD hS hA [0, 3, 4, 5] rfl (by decide) (fun _ => rfl) (fun v24 u23 H locs h22 hP hD hS => ?_)
            obtain ⟨q25, eq25⟩ : ∃ z : Int32, f_L_tryPlace r p2 = z := ⟨_, rfl⟩
            obtain rfl : q25 = v24 := by rw [← eq25, h22]
            have hF := hF.trans (gLet_e eq25)
            have hP : va_P D vwCl ((a0, .inr (4, [.ref a1, .ref a2, .ref a3, .ref a4, .ref a5])) :: (a1, .inr (3, [.ref a6, .int tn])) :: (a6, .inl (y 1, 120, .inl tf)) :: (a2, soF a7 a8 r) :: (a7, soV y r) :: (a8, soW y r) :: (a3, soF a9 a10 rc) :: (a9, soV y rc) :: (a10, soW y rc) :: (a4, .inr (0, [.ref a11, .int qz, .int qn])) :: (a11, .inl (y 3, 14, .inr (.inr (.inr (.inr (gRf ga hq)))))) :: (a5, .inr (1, [.ref a12, .ref a13])) :: (a12, .inl (y 3, 2, .inr (.inr (.inr (.inr (gRf gb lq)))))) :: (a13, .inl (y 2, 2, .inl lfl)) :: T) H := hP
            have hD : va_D A ((a0, .inr (4, [.ref a1, .ref a2, .ref a3, .ref a4, .ref a5])) :: (a1, .inr (3, [.ref a6, .int tn])) :: (a6, .inl (y 1, 120, .inl tf)) :: (a2, soF a7 a8 r) :: (a7, soV y r) :: (a8, soW y r) :: (a3, soF a9 a10 rc) :: (a9, soV y rc) :: (a10, soW y rc) :: (a4, .inr (0, [.ref a11, .int qz, .int qn])) :: (a11, .inl (y 3, 14, .inr (.inr (.inr (.inr (gRf ga hq)))))) :: (a5, .inr (1, [.ref a12, .ref a13])) :: (a12, .inl (y 3, 2, .inr (.inr (.inr (.inr (gRf gb lq)))))) :: (a13, .inl (y 2, 2, .inl lfl)) :: T) := hD
            refine W.widen (k := 5) (n := 92) (Nat.le_of_ble_eq_true rfl) (Nat.le_of_ble_eq_true rfl) ?_
            rw [← hT] at hP hD
            exact W.iret (v := q25) hx hb hr (fun t ht hW => ⟨⟨q25, ⟨tn, tf, r, rc, qz, qn, hq, lq, lfl⟩, rfl, hF, ⟨ga, gb, by rw [ht]; exact hP, hD⟩⟩, hS.F ht⟩) hS.2.2 dL_call_128
          · have hF := hF.trans (if_neg c_21)
            by_cases c_26 : p1 = 5
            · have hF := hF.trans (if_pos c_26)
              refine lv_tableIn (off := 128) (tgt := 129) hx hb dL_call_1 (by rw [c_26]; decide) (by rw [c_26]; decide) (by rw [c_26]; rfl) (by decide) ?_
              refine lv_aload_n hx hb dL_call_129 rfl (lv_at hl 0 rfl) ?_
              refine lv_iload_n hx hb dL_call_130 rfl (lv_at hl 2 rfl) ?_
              refine xl_calli (vx_runSW (As := [.ref a0, .int p2]) (rest := []) ⟨hx, hb, hml, hown, hts⟩ (c_L_tryLine l hst D y a0 a1 a2 a3 a4 a5 a7 a8 s.heap.size r p2 ho) (vx_cwSW 2 hts gL_call_L_tryLine rfl rfl rfl hd_L_tryLine ⟨Nat.le_of_ble_eq_true rfl, Nat.le_of_ble_eq_true rfl⟩) (lS hE hXE hLN hXZ hS hA (hP.sub [0, 3, 4, 5] rfl) (hD.sub [0, 3, 4, 5] (by decide) rfl)) rfl rfl hl.1 rfl (lv_room (Nat.le_of_ble_eq_true rfl)) dL_call_131 ⟨Nat.le_of_ble_eq_true rfl, Nat.le_of_ble_eq_true rfl⟩) hP hD hS hA [0, 3, 4, 5] rfl (by decide) (fun _ => rfl) (fun v29 u28 H locs h27 hP hD hS => ?_)
              obtain ⟨q30, eq30⟩ : ∃ z : Int32, f_L_tryLine r p2 = z := ⟨_, rfl⟩
              obtain rfl : q30 = v29 := by rw [← eq30, h27]
              have hF := hF.trans (gLet_e eq30)
              have hP : va_P D vwCl ((a0, .inr (4, [.ref a1, .ref a2, .ref a3, .ref a4, .ref a5])) :: (a1, .inr (3, [.ref a6, .int tn])) :: (a6, .inl (y 1, 120, .inl tf)) :: (a2, soF a7 a8 r) :: (a7, soV y r) :: (a8, soW y r) :: (a3, soF a9 a10 rc) :: (a9, soV y rc) :: (a10, soW y rc) :: (a4, .inr (0, [.ref a11, .int qz, .int qn])) :: (a11, .inl (y 3, 14, .inr (.inr (.inr (.inr (gRf ga hq)))))) :: (a5, .inr (1, [.ref a12, .ref a13])) :: (a12, .inl (y 3, 2, .inr (.inr (.inr (.inr (gRf gb lq)))))) :: (a13, .inl (y 2, 2, .inl lfl)) :: T) H := hP
              have hD : va_D A ((a0, .inr (4, [.ref a1, .ref a2, .ref a3, .ref a4, .ref a5])) :: (a1, .inr (3, [.ref a6, .int tn])) :: (a6, .inl (y 1, 120, .inl tf)) :: (a2, soF a7 a8 r) :: (a7, soV y r) :: (a8, soW y r) :: (a3, soF a9 a10 rc) :: (a9, soV y rc) :: (a10, soW y rc) :: (a4, .inr (0, [.ref a11, .int qz, .int qn])) :: (a11, .inl (y 3, 14, .inr (.inr (.inr (.inr (gRf ga hq)))))) :: (a5, .inr (1, [.ref a12, .ref a13])) :: (a12, .inl (y 3, 2, .inr (.inr (.inr (.inr (gRf gb lq)))))) :: (a13, .inl (y 2, 2, .inl lfl)) :: T) := hD
              refine W.widen (k := 5) (n := 92) (Nat.le_of_ble_eq_true rfl) (Nat.le_of_ble_eq_true rfl) ?_
              rw [← hT] at hP hD
              exact W.iret (v := q30) hx hb hr (fun t ht hW => ⟨⟨q30, ⟨tn, tf, r, rc, qz, qn, hq, lq, lfl⟩, rfl, hF, ⟨ga, gb, by rw [ht]; exact hP, hD⟩⟩, hS.F ht⟩) hS.2.2 dL_call_134
            · have hF := hF.trans (if_neg c_26)
              by_cases c_31 : p1 = 6
              · have hF := hF.trans (if_pos c_31)
                refine lv_tableIn (off := 134) (tgt := 135) hx hb dL_call_1 (by rw [c_31]; decide) (by rw [c_31]; decide) (by rw [c_31]; rfl) (by decide) ?_
                refine lv_aload_n hx hb dL_call_135 rfl (lv_at hl 0 rfl) ?_
                refine lv_iload_n hx hb dL_call_136 rfl (lv_at hl 2 rfl) ?_
                refine xl_calli (vx_runSW (As := [.ref a0, .int p2]) (rest := []) ⟨hx, hb, hml, hown, hts⟩ (c_L_tryWear l hst D y a0 a1 a2 a3 a4 a5 a7 a8 s.heap.size r p2 ho) (vx_cwSW 2 hts gL_call_L_tryWear rfl rfl rfl hd_L_tryWear ⟨Nat.le_of_ble_eq_true rfl, Nat.le_of_ble_eq_true rfl⟩) (lS hE hXE hLN hXZ hS hA (hP.sub [0, 3, 4, 5] rfl) (hD.sub [0, 3, 4, 5] (by decide) rfl)) rfl rfl hl.1 rfl (lv_room (Nat.le_of_ble_eq_true rfl)) dL_call_137 ⟨Nat.le_of_ble_eq_true rfl, Nat.le_of_ble_eq_true rfl⟩) hP hD hS hA [0, 3, 4, 5] rfl (by decide) (fun _ => rfl) (fun v34 u33 H locs h32 hP hD hS => ?_)
                obtain ⟨q35, eq35⟩ : ∃ z : Int32, f_L_tryWear r p2 = z := ⟨_, rfl⟩
                obtain rfl : q35 = v34 := by rw [← eq35, h32]
                have hF := hF.trans (gLet_e eq35)
                have hP : va_P D vwCl ((a0, .inr (4, [.ref a1, .ref a2, .ref a3, .ref a4, .ref a5])) :: (a1, .inr (3, [.ref a6, .int tn])) :: (a6, .inl (y 1, 120, .inl tf)) :: (a2, soF a7 a8 r) :: (a7, soV y r) :: (a8, soW y r) :: (a3, soF a9 a10 rc) :: (a9, soV y rc) :: (a10, soW y rc) :: (a4, .inr (0, [.ref a11, .int qz, .int qn])) :: (a11, .inl (y 3, 14, .inr (.inr (.inr (.inr (gRf ga hq)))))) :: (a5, .inr (1, [.ref a12, .ref a13])) :: (a12, .inl (y 3, 2, .inr (.inr (.inr (.inr (gRf gb lq)))))) :: (a13, .inl (y 2, 2, .inl lfl)) :: T) H := hP
                have hD : va_D A ((a0, .inr (4, [.ref a1, .ref a2, .ref a3, .ref a4, .ref a5])) :: (a1, .inr (3, [.ref a6, .int tn])) :: (a6, .inl (y 1, 120, .inl tf)) :: (a2, soF a7 a8 r) :: (a7, soV y r) :: (a8, soW y r) :: (a3, soF a9 a10 rc) :: (a9, soV y rc) :: (a10, soW y rc) :: (a4, .inr (0, [.ref a11, .int qz, .int qn])) :: (a11, .inl (y 3, 14, .inr (.inr (.inr (.inr (gRf ga hq)))))) :: (a5, .inr (1, [.ref a12, .ref a13])) :: (a12, .inl (y 3, 2, .inr (.inr (.inr (.inr (gRf gb lq)))))) :: (a13, .inl (y 2, 2, .inl lfl)) :: T) := hD
                refine W.widen (k := 5) (n := 92) (Nat.le_of_ble_eq_true rfl) (Nat.le_of_ble_eq_true rfl) ?_
                rw [← hT] at hP hD
                exact W.iret (v := q35) hx hb hr (fun t ht hW => ⟨⟨q35, ⟨tn, tf, r, rc, qz, qn, hq, lq, lfl⟩, rfl, hF, ⟨ga, gb, by rw [ht]; exact hP, hD⟩⟩, hS.F ht⟩) hS.2.2 dL_call_140
              · have hF := hF.trans (if_neg c_31)
                by_cases c_36 : p1 = 7
                · have hF := hF.trans (if_pos c_36)
                  refine lv_tableIn (off := 140) (tgt := 141) hx hb dL_call_1 (by rw [c_36]; decide) (by rw [c_36]; decide) (by rw [c_36]; rfl) (by decide) ?_
                  refine lv_aload_n hx hb dL_call_141 rfl (lv_at hl 0 rfl) ?_
                  refine lv_iload_n hx hb dL_call_142 rfl (lv_at hl 2 rfl) ?_
                  refine xl_calli (vx_runSW (As := [.ref a0, .int p2]) (rest := []) ⟨hx, hb, hml, hown, hts⟩ (c_L_trySetting l hst D y a0 a1 a2 a3 a4 a5 a7 a8 s.heap.size r p2 ho) (vx_cwSW 2 hts gL_call_L_trySetting rfl rfl rfl hd_L_trySetting ⟨Nat.le_of_ble_eq_true rfl, Nat.le_of_ble_eq_true rfl⟩) (lS hE hXE hLN hXZ hS hA (hP.sub [0, 3, 4, 5] rfl) (hD.sub [0, 3, 4, 5] (by decide) rfl)) rfl rfl hl.1 rfl (lv_room (Nat.le_of_ble_eq_true rfl)) dL_call_143 ⟨Nat.le_of_ble_eq_true rfl, Nat.le_of_ble_eq_true rfl⟩) hP hD hS hA [0, 3, 4, 5] rfl (by decide) (fun _ => rfl) (fun v39 u38 H locs h37 hP hD hS => ?_)
                  obtain ⟨q40, eq40⟩ : ∃ z : Int32, f_L_trySetting r p2 = z := ⟨_, rfl⟩
                  obtain rfl : q40 = v39 := by rw [← eq40, h37]
                  have hF := hF.trans (gLet_e eq40)
                  have hP : va_P D vwCl ((a0, .inr (4, [.ref a1, .ref a2, .ref a3, .ref a4, .ref a5])) :: (a1, .inr (3, [.ref a6, .int tn])) :: (a6, .inl (y 1, 120, .inl tf)) :: (a2, soF a7 a8 r) :: (a7, soV y r) :: (a8, soW y r) :: (a3, soF a9 a10 rc) :: (a9, soV y rc) :: (a10, soW y rc) :: (a4, .inr (0, [.ref a11, .int qz, .int qn])) :: (a11, .inl (y 3, 14, .inr (.inr (.inr (.inr (gRf ga hq)))))) :: (a5, .inr (1, [.ref a12, .ref a13])) :: (a12, .inl (y 3, 2, .inr (.inr (.inr (.inr (gRf gb lq)))))) :: (a13, .inl (y 2, 2, .inl lfl)) :: T) H := hP
                  have hD : va_D A ((a0, .inr (4, [.ref a1, .ref a2, .ref a3, .ref a4, .ref a5])) :: (a1, .inr (3, [.ref a6, .int tn])) :: (a6, .inl (y 1, 120, .inl tf)) :: (a2, soF a7 a8 r) :: (a7, soV y r) :: (a8, soW y r) :: (a3, soF a9 a10 rc) :: (a9, soV y rc) :: (a10, soW y rc) :: (a4, .inr (0, [.ref a11, .int qz, .int qn])) :: (a11, .inl (y 3, 14, .inr (.inr (.inr (.inr (gRf ga hq)))))) :: (a5, .inr (1, [.ref a12, .ref a13])) :: (a12, .inl (y 3, 2, .inr (.inr (.inr (.inr (gRf gb lq)))))) :: (a13, .inl (y 2, 2, .inl lfl)) :: T) := hD
                  refine W.widen (k := 5) (n := 92) (Nat.le_of_ble_eq_true rfl) (Nat.le_of_ble_eq_true rfl) ?_
                  rw [← hT] at hP hD
                  exact W.iret (v := q40) hx hb hr (fun t ht hW => ⟨⟨q40, ⟨tn, tf, r, rc, qz, qn, hq, lq, lfl⟩, rfl, hF, ⟨ga, gb, by rw [ht]; exact hP, hD⟩⟩, hS.F ht⟩) hS.2.2 dL_call_146
                · have hF := hF.trans (if_neg c_36)
                  by_cases c_41 : p1 = 8
                  · have hF := hF.trans (if_pos c_41)
                    refine lv_tableIn (off := 146) (tgt := 147) hx hb dL_call_1 (by rw [c_41]; decide) (by rw [c_41]; decide) (by rw [c_41]; rfl) (by decide) ?_
                    refine lv_aload_n hx hb dL_call_147 rfl (lv_at hl 0 rfl) ?_
                    refine lv_iload_n hx hb dL_call_148 rfl (lv_at hl 2 rfl) ?_
                    refine lv_iload_n hx hb dL_call_149 rfl (lv_at hl 3 rfl) ?_
                    refine lv_iload hx hb dL_call_150 (lv_at hl 4 rfl) ?_
                    rw [← hT] at hP hD
                    refine xw_callEi (vx_runSW (As := [.ref a0, .int p2, .int p3, .int p4]) (rest := []) ⟨hx, hb, hml, hown, hts⟩ (c_L_tryMake l hst D y a0 a1 a2 a3 a4 a5 a6 a7 a8 a9 a10 a11 a12 a13 ga gb s.heap.size tn tf r rc qz qn hq lq lfl p2 p3 p4 hh ho) (vx_cwSW 4 hts gL_call_L_tryMake rfl rfl rfl hd_L_tryMake ⟨Nat.le_of_ble_eq_true rfl, Nat.le_of_ble_eq_true rfl⟩) (lS hE hXE hLN hXZ hS hA hP hD) rfl rfl hl.1 rfl (lv_room (Nat.le_of_ble_eq_true rfl)) dL_call_152 ⟨Nat.le_of_ble_eq_true rfl, Nat.le_of_ble_eq_true rfl⟩) hD hS hA (fun v46 u43 ga44 gb45 H locs h42 hP hD hS => ?_)
                    obtain ⟨q47, eq47⟩ : ∃ z : Int32 × gR × (Nat → Option gR) × Int32 × Int32, f_L_tryMake tn tf r rc qz qn hq lq lfl p2 p3 p4 = z := ⟨_, rfl⟩
                    obtain ⟨rfl, rfl⟩ : q47.1 = v46 ∧ q47.2 = u43 := ⟨by rw [← eq47, h42], by rw [← eq47, h42]⟩
                    have hF := hF.trans (gLet_e eq47)
                    have hP : va_P D vwCl ((a0, .inr (4, [.ref a1, .ref a2, .ref a3, .ref a4, .ref a5])) :: (a1, .inr (3, [.ref a6, .int tn])) :: (a6, .inl (y 1, 120, .inl tf)) :: (a2, soF a7 a8 q47.2.1) :: (a7, soV y q47.2.1) :: (a8, soW y q47.2.1) :: (a3, soF a9 a10 rc) :: (a9, soV y rc) :: (a10, soW y rc) :: (a4, .inr (0, [.ref a11, .int q47.2.2.2.1, .int q47.2.2.2.2])) :: (a11, .inl (y 3, 14, .inr (.inr (.inr (.inr (gRf ga44 q47.2.2.1)))))) :: (a5, .inr (1, [.ref a12, .ref a13])) :: (a12, .inl (y 3, 2, .inr (.inr (.inr (.inr (gRf gb45 lq)))))) :: (a13, .inl (y 2, 2, .inl lfl)) :: gTail y ga44 gb45 q47.2.2.1 lq) H := hP
                    have hD : va_D A ((a0, .inr (4, [.ref a1, .ref a2, .ref a3, .ref a4, .ref a5])) :: (a1, .inr (3, [.ref a6, .int tn])) :: (a6, .inl (y 1, 120, .inl tf)) :: (a2, soF a7 a8 q47.2.1) :: (a7, soV y q47.2.1) :: (a8, soW y q47.2.1) :: (a3, soF a9 a10 rc) :: (a9, soV y rc) :: (a10, soW y rc) :: (a4, .inr (0, [.ref a11, .int q47.2.2.2.1, .int q47.2.2.2.2])) :: (a11, .inl (y 3, 14, .inr (.inr (.inr (.inr (gRf ga44 q47.2.2.1)))))) :: (a5, .inr (1, [.ref a12, .ref a13])) :: (a12, .inl (y 3, 2, .inr (.inr (.inr (.inr (gRf gb45 lq)))))) :: (a13, .inl (y 2, 2, .inl lfl)) :: gTail y ga44 gb45 q47.2.2.1 lq) := hD
                    obtain ⟨T48, hT48⟩ : ∃ T : va_W, gTail y ga44 gb45 q47.2.2.1 lq = T := ⟨_, rfl⟩
                    rw [hT48] at hP hD
                    refine W.widen (k := 5) (n := 92) (Nat.le_of_ble_eq_true rfl) (Nat.le_of_ble_eq_true rfl) ?_
                    rw [← hT48] at hP hD
                    exact W.iret (v := q47.1) hx hb hr (fun t ht hW => ⟨⟨q47.1, ⟨tn, tf, q47.2.1, rc, q47.2.2.2.1, q47.2.2.2.2, q47.2.2.1, lq, lfl⟩, rfl, hF, ⟨ga44, gb45, by rw [ht]; exact hP, hD⟩⟩, hS.F ht⟩) hS.2.2 dL_call_155
                  · have hF := hF.trans (if_neg c_41)
                    by_cases c_49 : p1 = 9
                    · have hF := hF.trans (if_pos c_49)
                      refine lv_tableIn (off := 155) (tgt := 156) hx hb dL_call_1 (by rw [c_49]; decide) (by rw [c_49]; decide) (by rw [c_49]; rfl) (by decide) ?_
                      refine lv_aload_n hx hb dL_call_156 rfl (lv_at hl 0 rfl) ?_
                      refine lv_iload_n hx hb dL_call_157 rfl (lv_at hl 2 rfl) ?_
                      refine lv_iload_n hx hb dL_call_158 rfl (lv_at hl 3 rfl) ?_
                      rw [← hT] at hP hD
                      refine xw_callEi (vx_runSW (As := [.ref a0, .int p2, .int p3]) (rest := []) ⟨hx, hb, hml, hown, hts⟩ (c_L_tryWrite l hst D y a0 a1 a2 a3 a4 a5 a6 a7 a8 a9 a10 a11 a12 a13 ga gb s.heap.size tn tf r rc qz qn hq lq lfl p2 p3 hh ho) (vx_cwSW 3 hts gL_call_L_tryWrite rfl rfl rfl hd_L_tryWrite ⟨Nat.le_of_ble_eq_true rfl, Nat.le_of_ble_eq_true rfl⟩) (lS hE hXE hLN hXZ hS hA hP hD) rfl rfl hl.1 rfl (lv_room (Nat.le_of_ble_eq_true rfl)) dL_call_159 ⟨Nat.le_of_ble_eq_true rfl, Nat.le_of_ble_eq_true rfl⟩) hD hS hA (fun v54 u51 ga52 gb53 H locs h50 hP hD hS => ?_)
                      obtain ⟨q55, eq55⟩ : ∃ z : Int32 × gR × (Nat → Option gR) × Int32 × Int32, f_L_tryWrite tn tf r rc qz qn hq lq lfl p2 p3 = z := ⟨_, rfl⟩
                      obtain ⟨rfl, rfl⟩ : q55.1 = v54 ∧ q55.2 = u51 := ⟨by rw [← eq55, h50], by rw [← eq55, h50]⟩
                      have hF := hF.trans (gLet_e eq55)
                      have hP : va_P D vwCl ((a0, .inr (4, [.ref a1, .ref a2, .ref a3, .ref a4, .ref a5])) :: (a1, .inr (3, [.ref a6, .int tn])) :: (a6, .inl (y 1, 120, .inl tf)) :: (a2, soF a7 a8 q55.2.1) :: (a7, soV y q55.2.1) :: (a8, soW y q55.2.1) :: (a3, soF a9 a10 rc) :: (a9, soV y rc) :: (a10, soW y rc) :: (a4, .inr (0, [.ref a11, .int q55.2.2.2.1, .int q55.2.2.2.2])) :: (a11, .inl (y 3, 14, .inr (.inr (.inr (.inr (gRf ga52 q55.2.2.1)))))) :: (a5, .inr (1, [.ref a12, .ref a13])) :: (a12, .inl (y 3, 2, .inr (.inr (.inr (.inr (gRf gb53 lq)))))) :: (a13, .inl (y 2, 2, .inl lfl)) :: gTail y ga52 gb53 q55.2.2.1 lq) H := hP
                      have hD : va_D A ((a0, .inr (4, [.ref a1, .ref a2, .ref a3, .ref a4, .ref a5])) :: (a1, .inr (3, [.ref a6, .int tn])) :: (a6, .inl (y 1, 120, .inl tf)) :: (a2, soF a7 a8 q55.2.1) :: (a7, soV y q55.2.1) :: (a8, soW y q55.2.1) :: (a3, soF a9 a10 rc) :: (a9, soV y rc) :: (a10, soW y rc) :: (a4, .inr (0, [.ref a11, .int q55.2.2.2.1, .int q55.2.2.2.2])) :: (a11, .inl (y 3, 14, .inr (.inr (.inr (.inr (gRf ga52 q55.2.2.1)))))) :: (a5, .inr (1, [.ref a12, .ref a13])) :: (a12, .inl (y 3, 2, .inr (.inr (.inr (.inr (gRf gb53 lq)))))) :: (a13, .inl (y 2, 2, .inl lfl)) :: gTail y ga52 gb53 q55.2.2.1 lq) := hD
                      obtain ⟨T56, hT56⟩ : ∃ T : va_W, gTail y ga52 gb53 q55.2.2.1 lq = T := ⟨_, rfl⟩
                      rw [hT56] at hP hD
                      refine W.widen (k := 5) (n := 92) (Nat.le_of_ble_eq_true rfl) (Nat.le_of_ble_eq_true rfl) ?_
                      rw [← hT56] at hP hD
                      exact W.iret (v := q55.1) hx hb hr (fun t ht hW => ⟨⟨q55.1, ⟨tn, tf, q55.2.1, rc, q55.2.2.2.1, q55.2.2.2.2, q55.2.2.1, lq, lfl⟩, rfl, hF, ⟨ga52, gb53, by rw [ht]; exact hP, hD⟩⟩, hS.F ht⟩) hS.2.2 dL_call_162
                    · have hF := hF.trans (if_neg c_49)
                      by_cases c_57 : p1 = 10
                      · have hF := hF.trans (if_pos c_57)
                        refine lv_tableIn (off := 162) (tgt := 163) hx hb dL_call_1 (by rw [c_57]; decide) (by rw [c_57]; decide) (by rw [c_57]; rfl) (by decide) ?_
                        refine lv_aload_n hx hb dL_call_163 rfl (lv_at hl 0 rfl) ?_
                        refine lv_iload_n hx hb dL_call_164 rfl (lv_at hl 2 rfl) ?_
                        refine lv_iload_n hx hb dL_call_165 rfl (lv_at hl 3 rfl) ?_
                        rw [← hT] at hP hD
                        refine xw_callEi (vx_runSW (As := [.ref a0, .int p2, .int p3]) (rest := []) ⟨hx, hb, hml, hown, hts⟩ (c_L_tryHammer l hst D y a0 a1 a2 a3 a4 a5 a6 a7 a8 a9 a10 a11 a12 a13 ga gb s.heap.size tn tf r rc qz qn hq lq lfl p2 p3 hh ho) (vx_cwSW 3 hts gL_call_L_tryHammer rfl rfl rfl hd_L_tryHammer ⟨Nat.le_of_ble_eq_true rfl, Nat.le_of_ble_eq_true rfl⟩) (lS hE hXE hLN hXZ hS hA hP hD) rfl rfl hl.1 rfl (lv_room (Nat.le_of_ble_eq_true rfl)) dL_call_166 ⟨Nat.le_of_ble_eq_true rfl, Nat.le_of_ble_eq_true rfl⟩) hD hS hA (fun v62 u59 ga60 gb61 H locs h58 hP hD hS => ?_)
                        obtain ⟨q63, eq63⟩ : ∃ z : Int32 × gR × (Nat → Option gR) × Int32 × Int32, f_L_tryHammer tn tf r rc qz qn hq lq lfl p2 p3 = z := ⟨_, rfl⟩
                        obtain ⟨rfl, rfl⟩ : q63.1 = v62 ∧ q63.2 = u59 := ⟨by rw [← eq63, h58], by rw [← eq63, h58]⟩
                        have hF := hF.trans (gLet_e eq63)
                        have hP : va_P D vwCl ((a0, .inr (4, [.ref a1, .ref a2, .ref a3, .ref a4, .ref a5])) :: (a1, .inr (3, [.ref a6, .int tn])) :: (a6, .inl (y 1, 120, .inl tf)) :: (a2, soF a7 a8 q63.2.1) :: (a7, soV y q63.2.1) :: (a8, soW y q63.2.1) :: (a3, soF a9 a10 rc) :: (a9, soV y rc) :: (a10, soW y rc) :: (a4, .inr (0, [.ref a11, .int q63.2.2.2.1, .int q63.2.2.2.2])) :: (a11, .inl (y 3, 14, .inr (.inr (.inr (.inr (gRf ga60 q63.2.2.1)))))) :: (a5, .inr (1, [.ref a12, .ref a13])) :: (a12, .inl (y 3, 2, .inr (.inr (.inr (.inr (gRf gb61 lq)))))) :: (a13, .inl (y 2, 2, .inl lfl)) :: gTail y ga60 gb61 q63.2.2.1 lq) H := hP
                        have hD : va_D A ((a0, .inr (4, [.ref a1, .ref a2, .ref a3, .ref a4, .ref a5])) :: (a1, .inr (3, [.ref a6, .int tn])) :: (a6, .inl (y 1, 120, .inl tf)) :: (a2, soF a7 a8 q63.2.1) :: (a7, soV y q63.2.1) :: (a8, soW y q63.2.1) :: (a3, soF a9 a10 rc) :: (a9, soV y rc) :: (a10, soW y rc) :: (a4, .inr (0, [.ref a11, .int q63.2.2.2.1, .int q63.2.2.2.2])) :: (a11, .inl (y 3, 14, .inr (.inr (.inr (.inr (gRf ga60 q63.2.2.1)))))) :: (a5, .inr (1, [.ref a12, .ref a13])) :: (a12, .inl (y 3, 2, .inr (.inr (.inr (.inr (gRf gb61 lq)))))) :: (a13, .inl (y 2, 2, .inl lfl)) :: gTail y ga60 gb61 q63.2.2.1 lq) := hD
                        obtain ⟨T64, hT64⟩ : ∃ T : va_W, gTail y ga60 gb61 q63.2.2.1 lq = T := ⟨_, rfl⟩
                        rw [hT64] at hP hD
                        refine W.widen (k := 5) (n := 92) (Nat.le_of_ble_eq_true rfl) (Nat.le_of_ble_eq_true rfl) ?_
                        rw [← hT64] at hP hD
                        exact W.iret (v := q63.1) hx hb hr (fun t ht hW => ⟨⟨q63.1, ⟨tn, tf, q63.2.1, rc, q63.2.2.2.1, q63.2.2.2.2, q63.2.2.1, lq, lfl⟩, rfl, hF, ⟨ga60, gb61, by rw [ht]; exact hP, hD⟩⟩, hS.F ht⟩) hS.2.2 dL_call_169
                      · have hF := hF.trans (if_neg c_57)
                        by_cases c_65 : p1 = 11
                        · have hF := hF.trans (if_pos c_65)
                          refine lv_tableIn (off := 169) (tgt := 170) hx hb dL_call_1 (by rw [c_65]; decide) (by rw [c_65]; decide) (by rw [c_65]; rfl) (by decide) ?_
                          refine lv_aload_n hx hb dL_call_170 rfl (lv_at hl 0 rfl) ?_
                          refine lv_iload_n hx hb dL_call_171 rfl (lv_at hl 2 rfl) ?_
                          rw [← hT] at hP hD
                          refine xw_callEi (vx_runSW (As := [.ref a0, .int p2]) (rest := []) ⟨hx, hb, hml, hown, hts⟩ (c_L_tryAll l hst D y a0 a1 a2 a3 a4 a5 a6 a7 a8 a9 a10 a11 a12 a13 ga gb s.heap.size tn tf r rc qz qn hq lq lfl p2 hh ho) (vx_cwSW 2 hts gL_call_L_tryAll rfl rfl rfl hd_L_tryAll ⟨Nat.le_of_ble_eq_true rfl, Nat.le_of_ble_eq_true rfl⟩) (lS hE hXE hLN hXZ hS hA hP hD) rfl rfl hl.1 rfl (lv_room (Nat.le_of_ble_eq_true rfl)) dL_call_172 ⟨Nat.le_of_ble_eq_true rfl, Nat.le_of_ble_eq_true rfl⟩) hD hS hA (fun v70 u67 ga68 gb69 H locs h66 hP hD hS => ?_)
                          obtain ⟨q71, eq71⟩ : ∃ z : Int32 × gR × (Nat → Option gR) × Int32 × Int32, f_L_tryAll tn tf r rc qz qn hq lq lfl p2 = z := ⟨_, rfl⟩
                          obtain ⟨rfl, rfl⟩ : q71.1 = v70 ∧ q71.2 = u67 := ⟨by rw [← eq71, h66], by rw [← eq71, h66]⟩
                          have hF := hF.trans (gLet_e eq71)
                          have hP : va_P D vwCl ((a0, .inr (4, [.ref a1, .ref a2, .ref a3, .ref a4, .ref a5])) :: (a1, .inr (3, [.ref a6, .int tn])) :: (a6, .inl (y 1, 120, .inl tf)) :: (a2, soF a7 a8 q71.2.1) :: (a7, soV y q71.2.1) :: (a8, soW y q71.2.1) :: (a3, soF a9 a10 rc) :: (a9, soV y rc) :: (a10, soW y rc) :: (a4, .inr (0, [.ref a11, .int q71.2.2.2.1, .int q71.2.2.2.2])) :: (a11, .inl (y 3, 14, .inr (.inr (.inr (.inr (gRf ga68 q71.2.2.1)))))) :: (a5, .inr (1, [.ref a12, .ref a13])) :: (a12, .inl (y 3, 2, .inr (.inr (.inr (.inr (gRf gb69 lq)))))) :: (a13, .inl (y 2, 2, .inl lfl)) :: gTail y ga68 gb69 q71.2.2.1 lq) H := hP
                          have hD : va_D A ((a0, .inr (4, [.ref a1, .ref a2, .ref a3, .ref a4, .ref a5])) :: (a1, .inr (3, [.ref a6, .int tn])) :: (a6, .inl (y 1, 120, .inl tf)) :: (a2, soF a7 a8 q71.2.1) :: (a7, soV y q71.2.1) :: (a8, soW y q71.2.1) :: (a3, soF a9 a10 rc) :: (a9, soV y rc) :: (a10, soW y rc) :: (a4, .inr (0, [.ref a11, .int q71.2.2.2.1, .int q71.2.2.2.2])) :: (a11, .inl (y 3, 14, .inr (.inr (.inr (.inr (gRf ga68 q71.2.2.1)))))) :: (a5, .inr (1, [.ref a12, .ref a13])) :: (a12, .inl (y 3, 2, .inr (.inr (.inr (.inr (gRf gb69 lq)))))) :: (a13, .inl (y 2, 2, .inl lfl)) :: gTail y ga68 gb69 q71.2.2.1 lq) := hD
                          obtain ⟨T72, hT72⟩ : ∃ T : va_W, gTail y ga68 gb69 q71.2.2.1 lq = T := ⟨_, rfl⟩
                          rw [hT72] at hP hD
                          refine W.widen (k := 5) (n := 92) (Nat.le_of_ble_eq_true rfl) (Nat.le_of_ble_eq_true rfl) ?_
                          rw [← hT72] at hP hD
                          exact W.iret (v := q71.1) hx hb hr (fun t ht hW => ⟨⟨q71.1, ⟨tn, tf, q71.2.1, rc, q71.2.2.2.1, q71.2.2.2.2, q71.2.2.1, lq, lfl⟩, rfl, hF, ⟨ga68, gb69, by rw [ht]; exact hP, hD⟩⟩, hS.F ht⟩) hS.2.2 dL_call_175
                        · have hF := hF.trans (if_neg c_65)
                          by_cases c_73 : p1 = 12
                          · have hF := hF.trans (if_pos c_73)
                            refine lv_tableIn (off := 175) (tgt := 176) hx hb dL_call_1 (by rw [c_73]; decide) (by rw [c_73]; decide) (by rw [c_73]; rfl) (by decide) ?_
                            refine lv_aload_n hx hb dL_call_176 rfl (lv_at hl 0 rfl) ?_
                            refine lv_iload_n hx hb dL_call_177 rfl (lv_at hl 2 rfl) ?_
                            refine lv_iload_n hx hb dL_call_178 rfl (lv_at hl 3 rfl) ?_
                            rw [← hT] at hP hD
                            refine xw_callEi (vx_runSW (As := [.ref a0, .int p2, .int p3]) (rest := []) ⟨hx, hb, hml, hown, hts⟩ (c_L_tryLay l hst D y a0 a1 a2 a3 a4 a5 a6 a7 a8 a9 a10 a11 a12 a13 ga gb s.heap.size tn tf r rc qz qn hq lq lfl p2 p3 hh ho) (vx_cwSW 3 hts gL_call_L_tryLay rfl rfl rfl hd_L_tryLay ⟨Nat.le_of_ble_eq_true rfl, Nat.le_of_ble_eq_true rfl⟩) (lS hE hXE hLN hXZ hS hA hP hD) rfl rfl hl.1 rfl (lv_room (Nat.le_of_ble_eq_true rfl)) dL_call_179 ⟨Nat.le_of_ble_eq_true rfl, Nat.le_of_ble_eq_true rfl⟩) hD hS hA (fun v78 u75 ga76 gb77 H locs h74 hP hD hS => ?_)
                            obtain ⟨q79, eq79⟩ : ∃ z : Int32 × gR × (Nat → Option gR) × Int32 × Int32, f_L_tryLay tn tf r rc qz qn hq lq lfl p2 p3 = z := ⟨_, rfl⟩
                            obtain ⟨rfl, rfl⟩ : q79.1 = v78 ∧ q79.2 = u75 := ⟨by rw [← eq79, h74], by rw [← eq79, h74]⟩
                            have hF := hF.trans (gLet_e eq79)
                            have hP : va_P D vwCl ((a0, .inr (4, [.ref a1, .ref a2, .ref a3, .ref a4, .ref a5])) :: (a1, .inr (3, [.ref a6, .int tn])) :: (a6, .inl (y 1, 120, .inl tf)) :: (a2, soF a7 a8 q79.2.1) :: (a7, soV y q79.2.1) :: (a8, soW y q79.2.1) :: (a3, soF a9 a10 rc) :: (a9, soV y rc) :: (a10, soW y rc) :: (a4, .inr (0, [.ref a11, .int q79.2.2.2.1, .int q79.2.2.2.2])) :: (a11, .inl (y 3, 14, .inr (.inr (.inr (.inr (gRf ga76 q79.2.2.1)))))) :: (a5, .inr (1, [.ref a12, .ref a13])) :: (a12, .inl (y 3, 2, .inr (.inr (.inr (.inr (gRf gb77 lq)))))) :: (a13, .inl (y 2, 2, .inl lfl)) :: gTail y ga76 gb77 q79.2.2.1 lq) H := hP
                            have hD : va_D A ((a0, .inr (4, [.ref a1, .ref a2, .ref a3, .ref a4, .ref a5])) :: (a1, .inr (3, [.ref a6, .int tn])) :: (a6, .inl (y 1, 120, .inl tf)) :: (a2, soF a7 a8 q79.2.1) :: (a7, soV y q79.2.1) :: (a8, soW y q79.2.1) :: (a3, soF a9 a10 rc) :: (a9, soV y rc) :: (a10, soW y rc) :: (a4, .inr (0, [.ref a11, .int q79.2.2.2.1, .int q79.2.2.2.2])) :: (a11, .inl (y 3, 14, .inr (.inr (.inr (.inr (gRf ga76 q79.2.2.1)))))) :: (a5, .inr (1, [.ref a12, .ref a13])) :: (a12, .inl (y 3, 2, .inr (.inr (.inr (.inr (gRf gb77 lq)))))) :: (a13, .inl (y 2, 2, .inl lfl)) :: gTail y ga76 gb77 q79.2.2.1 lq) := hD
                            obtain ⟨T80, hT80⟩ : ∃ T : va_W, gTail y ga76 gb77 q79.2.2.1 lq = T := ⟨_, rfl⟩
                            rw [hT80] at hP hD
                            refine W.widen (k := 5) (n := 92) (Nat.le_of_ble_eq_true rfl) (Nat.le_of_ble_eq_true rfl) ?_
                            rw [← hT80] at hP hD
                            exact W.iret (v := q79.1) hx hb hr (fun t ht hW => ⟨⟨q79.1, ⟨tn, tf, q79.2.1, rc, q79.2.2.2.1, q79.2.2.2.2, q79.2.2.1, lq, lfl⟩, rfl, hF, ⟨ga76, gb77, by rw [ht]; exact hP, hD⟩⟩, hS.F ht⟩) hS.2.2 dL_call_182
                          · have hF := hF.trans (if_neg c_73)
                            by_cases c_81 : p1 = 13
                            · have hF := hF.trans (if_pos c_81)
                              refine lv_tableIn (off := 182) (tgt := 183) hx hb dL_call_1 (by rw [c_81]; decide) (by rw [c_81]; decide) (by rw [c_81]; rfl) (by decide) ?_
                              refine lv_aload_n hx hb dL_call_183 rfl (lv_at hl 0 rfl) ?_
                              rw [← hT] at hP hD
                              refine xw_callEi (vx_runSW (As := [.ref a0]) (rest := []) ⟨hx, hb, hml, hown, hts⟩ (c_L_tryUndo l hst D y a0 a1 a2 a3 a4 a5 a6 a7 a8 a9 a10 a11 a12 a13 ga gb s.heap.size tn tf r rc qz qn hq lq lfl hh hoq) (vx_cwSW 1 hts gL_call_L_tryUndo rfl rfl rfl hd_L_tryUndo ⟨Nat.le_of_ble_eq_true rfl, Nat.le_of_ble_eq_true rfl⟩) (lS hE hXE hLN hXZ hS hA hP hD) rfl rfl hl.1 rfl (lv_room (Nat.le_of_ble_eq_true rfl)) dL_call_184 ⟨Nat.le_of_ble_eq_true rfl, Nat.le_of_ble_eq_true rfl⟩) hD hS hA (fun v86 u83 ga84 gb85 H locs h82 hP hD hS => ?_)
                              obtain ⟨q87, eq87⟩ : ∃ z : Int32 × gR × Int32 × Int32, f_L_tryUndo tn tf r rc qz qn hq lq lfl = z := ⟨_, rfl⟩
                              obtain ⟨rfl, rfl⟩ : q87.1 = v86 ∧ q87.2 = u83 := ⟨by rw [← eq87, h82], by rw [← eq87, h82]⟩
                              have hF := hF.trans (gLet_e eq87)
                              have hP : va_P D vwCl ((a0, .inr (4, [.ref a1, .ref a2, .ref a3, .ref a4, .ref a5])) :: (a1, .inr (3, [.ref a6, .int tn])) :: (a6, .inl (y 1, 120, .inl tf)) :: (a2, soF a7 a8 q87.2.1) :: (a7, soV y q87.2.1) :: (a8, soW y q87.2.1) :: (a3, soF a9 a10 rc) :: (a9, soV y rc) :: (a10, soW y rc) :: (a4, .inr (0, [.ref a11, .int q87.2.2.1, .int q87.2.2.2])) :: (a11, .inl (y 3, 14, .inr (.inr (.inr (.inr (gRf ga84 hq)))))) :: (a5, .inr (1, [.ref a12, .ref a13])) :: (a12, .inl (y 3, 2, .inr (.inr (.inr (.inr (gRf gb85 lq)))))) :: (a13, .inl (y 2, 2, .inl lfl)) :: gTail y ga84 gb85 hq lq) H := hP
                              have hD : va_D A ((a0, .inr (4, [.ref a1, .ref a2, .ref a3, .ref a4, .ref a5])) :: (a1, .inr (3, [.ref a6, .int tn])) :: (a6, .inl (y 1, 120, .inl tf)) :: (a2, soF a7 a8 q87.2.1) :: (a7, soV y q87.2.1) :: (a8, soW y q87.2.1) :: (a3, soF a9 a10 rc) :: (a9, soV y rc) :: (a10, soW y rc) :: (a4, .inr (0, [.ref a11, .int q87.2.2.1, .int q87.2.2.2])) :: (a11, .inl (y 3, 14, .inr (.inr (.inr (.inr (gRf ga84 hq)))))) :: (a5, .inr (1, [.ref a12, .ref a13])) :: (a12, .inl (y 3, 2, .inr (.inr (.inr (.inr (gRf gb85 lq)))))) :: (a13, .inl (y 2, 2, .inl lfl)) :: gTail y ga84 gb85 hq lq) := hD
                              obtain ⟨T88, hT88⟩ : ∃ T : va_W, gTail y ga84 gb85 hq lq = T := ⟨_, rfl⟩
                              rw [hT88] at hP hD
                              refine W.widen (k := 5) (n := 92) (Nat.le_of_ble_eq_true rfl) (Nat.le_of_ble_eq_true rfl) ?_
                              rw [← hT88] at hP hD
                              exact W.iret (v := q87.1) hx hb hr (fun t ht hW => ⟨⟨q87.1, ⟨tn, tf, q87.2.1, rc, q87.2.2.1, q87.2.2.2, hq, lq, lfl⟩, rfl, hF, ⟨ga84, gb85, by rw [ht]; exact hP, hD⟩⟩, hS.F ht⟩) hS.2.2 dL_call_187
                            · have hF := hF.trans (if_neg c_81)
                              by_cases c_89 : p1 = 14
                              · have hF := hF.trans (if_pos c_89)
                                refine lv_tableIn (off := 187) (tgt := 188) hx hb dL_call_1 (by rw [c_89]; decide) (by rw [c_89]; decide) (by rw [c_89]; rfl) (by decide) ?_
                                refine lv_aload_n hx hb dL_call_188 rfl (lv_at hl 0 rfl) ?_
                                refine lv_iload_n hx hb dL_call_189 rfl (lv_at hl 2 rfl) ?_
                                refine xl_calli (vx_runSW (As := [.ref a0, .int p2]) (rest := []) ⟨hx, hb, hml, hown, hts⟩ (c_L_tryLife l hst D y a0 a1 a2 a3 a4 a5 a7 a8 a9 a10 s.heap.size r rc p2 ho) (vx_cwSW 2 hts gL_call_L_tryLife rfl rfl rfl hd_L_tryLife ⟨Nat.le_of_ble_eq_true rfl, Nat.le_of_ble_eq_true rfl⟩) (lS hE hXE hLN hXZ hS hA (hP.sub [0, 3, 4, 5, 6, 7, 8] rfl) (hD.sub [0, 3, 4, 5, 6, 7, 8] (by decide) rfl)) rfl rfl hl.1 rfl (lv_room (Nat.le_of_ble_eq_true rfl)) dL_call_190 ⟨Nat.le_of_ble_eq_true rfl, Nat.le_of_ble_eq_true rfl⟩) hP hD hS hA [0, 3, 4, 5, 6, 7, 8] rfl (by decide) (fun _ => rfl) (fun v92 u91 H locs h90 hP hD hS => ?_)
                                obtain ⟨q93, eq93⟩ : ∃ z : Int32 × gR, f_L_tryLife r rc p2 = z := ⟨_, rfl⟩
                                obtain ⟨rfl, rfl⟩ : q93.1 = v92 ∧ q93.2 = u91 := ⟨by rw [← eq93, h90], by rw [← eq93, h90]⟩
                                have hF := hF.trans (gLet_e eq93)
                                have hP : va_P D vwCl ((a0, .inr (4, [.ref a1, .ref a2, .ref a3, .ref a4, .ref a5])) :: (a1, .inr (3, [.ref a6, .int tn])) :: (a6, .inl (y 1, 120, .inl tf)) :: (a2, soF a7 a8 r) :: (a7, soV y r) :: (a8, soW y r) :: (a3, soF a9 a10 q93.2) :: (a9, soV y q93.2) :: (a10, soW y q93.2) :: (a4, .inr (0, [.ref a11, .int qz, .int qn])) :: (a11, .inl (y 3, 14, .inr (.inr (.inr (.inr (gRf ga hq)))))) :: (a5, .inr (1, [.ref a12, .ref a13])) :: (a12, .inl (y 3, 2, .inr (.inr (.inr (.inr (gRf gb lq)))))) :: (a13, .inl (y 2, 2, .inl lfl)) :: T) H := hP
                                have hD : va_D A ((a0, .inr (4, [.ref a1, .ref a2, .ref a3, .ref a4, .ref a5])) :: (a1, .inr (3, [.ref a6, .int tn])) :: (a6, .inl (y 1, 120, .inl tf)) :: (a2, soF a7 a8 r) :: (a7, soV y r) :: (a8, soW y r) :: (a3, soF a9 a10 q93.2) :: (a9, soV y q93.2) :: (a10, soW y q93.2) :: (a4, .inr (0, [.ref a11, .int qz, .int qn])) :: (a11, .inl (y 3, 14, .inr (.inr (.inr (.inr (gRf ga hq)))))) :: (a5, .inr (1, [.ref a12, .ref a13])) :: (a12, .inl (y 3, 2, .inr (.inr (.inr (.inr (gRf gb lq)))))) :: (a13, .inl (y 2, 2, .inl lfl)) :: T) := hD
                                refine W.widen (k := 5) (n := 92) (Nat.le_of_ble_eq_true rfl) (Nat.le_of_ble_eq_true rfl) ?_
                                rw [← hT] at hP hD
                                exact W.iret (v := q93.1) hx hb hr (fun t ht hW => ⟨⟨q93.1, ⟨tn, tf, r, q93.2, qz, qn, hq, lq, lfl⟩, rfl, hF, ⟨ga, gb, by rw [ht]; exact hP, hD⟩⟩, hS.F ht⟩) hS.2.2 dL_call_193
                              · have hF := hF.trans (if_neg c_89)
                                by_cases c_94 : p1 = 15
                                · have hF := hF.trans (if_pos c_94)
                                  refine lv_tableIn (off := 193) (tgt := 194) hx hb dL_call_1 (by rw [c_94]; decide) (by rw [c_94]; decide) (by rw [c_94]; rfl) (by decide) ?_
                                  refine lv_aload_n hx hb dL_call_194 rfl (lv_at hl 0 rfl) ?_
                                  refine xl_calli (vx_runSW (As := [.ref a0]) (rest := []) ⟨hx, hb, hml, hown, hts⟩ (c_L_tryLong l hst D y a0 a1 a2 a3 a4 a5 a7 a8 a9 a10 s.heap.size r rc ho) (vx_cwSW 1 hts gL_call_L_tryLong rfl rfl rfl hd_L_tryLong ⟨Nat.le_of_ble_eq_true rfl, Nat.le_of_ble_eq_true rfl⟩) (lS hE hXE hLN hXZ hS hA (hP.sub [0, 3, 4, 5, 6, 7, 8] rfl) (hD.sub [0, 3, 4, 5, 6, 7, 8] (by decide) rfl)) rfl rfl hl.1 rfl (lv_room (Nat.le_of_ble_eq_true rfl)) dL_call_195 ⟨Nat.le_of_ble_eq_true rfl, Nat.le_of_ble_eq_true rfl⟩) hP hD hS hA [0, 3, 4, 5, 6, 7, 8] rfl (by decide) (fun _ => rfl) (fun v97 u96 H locs h95 hP hD hS => ?_)
                                  obtain ⟨q98, eq98⟩ : ∃ z : Int32 × gR, f_L_tryLong r rc = z := ⟨_, rfl⟩
                                  obtain ⟨rfl, rfl⟩ : q98.1 = v97 ∧ q98.2 = u96 := ⟨by rw [← eq98, h95], by rw [← eq98, h95]⟩
                                  have hF := hF.trans (gLet_e eq98)
                                  have hP : va_P D vwCl ((a0, .inr (4, [.ref a1, .ref a2, .ref a3, .ref a4, .ref a5])) :: (a1, .inr (3, [.ref a6, .int tn])) :: (a6, .inl (y 1, 120, .inl tf)) :: (a2, soF a7 a8 r) :: (a7, soV y r) :: (a8, soW y r) :: (a3, soF a9 a10 q98.2) :: (a9, soV y q98.2) :: (a10, soW y q98.2) :: (a4, .inr (0, [.ref a11, .int qz, .int qn])) :: (a11, .inl (y 3, 14, .inr (.inr (.inr (.inr (gRf ga hq)))))) :: (a5, .inr (1, [.ref a12, .ref a13])) :: (a12, .inl (y 3, 2, .inr (.inr (.inr (.inr (gRf gb lq)))))) :: (a13, .inl (y 2, 2, .inl lfl)) :: T) H := hP
                                  have hD : va_D A ((a0, .inr (4, [.ref a1, .ref a2, .ref a3, .ref a4, .ref a5])) :: (a1, .inr (3, [.ref a6, .int tn])) :: (a6, .inl (y 1, 120, .inl tf)) :: (a2, soF a7 a8 r) :: (a7, soV y r) :: (a8, soW y r) :: (a3, soF a9 a10 q98.2) :: (a9, soV y q98.2) :: (a10, soW y q98.2) :: (a4, .inr (0, [.ref a11, .int qz, .int qn])) :: (a11, .inl (y 3, 14, .inr (.inr (.inr (.inr (gRf ga hq)))))) :: (a5, .inr (1, [.ref a12, .ref a13])) :: (a12, .inl (y 3, 2, .inr (.inr (.inr (.inr (gRf gb lq)))))) :: (a13, .inl (y 2, 2, .inl lfl)) :: T) := hD
                                  refine W.widen (k := 5) (n := 92) (Nat.le_of_ble_eq_true rfl) (Nat.le_of_ble_eq_true rfl) ?_
                                  rw [← hT] at hP hD
                                  exact W.iret (v := q98.1) hx hb hr (fun t ht hW => ⟨⟨q98.1, ⟨tn, tf, r, q98.2, qz, qn, hq, lq, lfl⟩, rfl, hF, ⟨ga, gb, by rw [ht]; exact hP, hD⟩⟩, hS.F ht⟩) hS.2.2 dL_call_198
                                · have hF := hF.trans (if_neg c_94)
                                  by_cases c_99 : p1 = 16
                                  · have hF := hF.trans (if_pos c_99)
                                    refine lv_tableIn (off := 198) (tgt := 199) hx hb dL_call_1 (by rw [c_99]; decide) (by rw [c_99]; decide) (by rw [c_99]; rfl) (by decide) ?_
                                    refine lv_aload_n hx hb dL_call_199 rfl (lv_at hl 0 rfl) ?_
                                    refine lv_iload_n hx hb dL_call_200 rfl (lv_at hl 2 rfl) ?_
                                    refine lv_iload_n hx hb dL_call_201 rfl (lv_at hl 3 rfl) ?_
                                    refine lv_iload hx hb dL_call_202 (lv_at hl 4 rfl) ?_
                                    refine xl_calli (vx_runSW (As := [.ref a0, .int p2, .int p3, .int p4]) (rest := []) ⟨hx, hb, hml, hown, hts⟩ (c_L_tryEvery l hst D y a0 a1 a2 a3 a4 a5 a7 a8 a9 a10 s.heap.size r rc p2 p3 p4 ho) (vx_cwSW 4 hts gL_call_L_tryEvery rfl rfl rfl hd_L_tryEvery ⟨Nat.le_of_ble_eq_true rfl, Nat.le_of_ble_eq_true rfl⟩) (lS hE hXE hLN hXZ hS hA (hP.sub [0, 3, 4, 5, 6, 7, 8] rfl) (hD.sub [0, 3, 4, 5, 6, 7, 8] (by decide) rfl)) rfl rfl hl.1 rfl (lv_room (Nat.le_of_ble_eq_true rfl)) dL_call_204 ⟨Nat.le_of_ble_eq_true rfl, Nat.le_of_ble_eq_true rfl⟩) hP hD hS hA [0, 3, 4, 5, 6, 7, 8] rfl (by decide) (fun _ => rfl) (fun v102 u101 H locs h100 hP hD hS => ?_)
                                    obtain ⟨q103, eq103⟩ : ∃ z : Int32 × gR, f_L_tryEvery r rc p2 p3 p4 = z := ⟨_, rfl⟩
                                    obtain ⟨rfl, rfl⟩ : q103.1 = v102 ∧ q103.2 = u101 := ⟨by rw [← eq103, h100], by rw [← eq103, h100]⟩
                                    have hF := hF.trans (gLet_e eq103)
                                    have hP : va_P D vwCl ((a0, .inr (4, [.ref a1, .ref a2, .ref a3, .ref a4, .ref a5])) :: (a1, .inr (3, [.ref a6, .int tn])) :: (a6, .inl (y 1, 120, .inl tf)) :: (a2, soF a7 a8 r) :: (a7, soV y r) :: (a8, soW y r) :: (a3, soF a9 a10 q103.2) :: (a9, soV y q103.2) :: (a10, soW y q103.2) :: (a4, .inr (0, [.ref a11, .int qz, .int qn])) :: (a11, .inl (y 3, 14, .inr (.inr (.inr (.inr (gRf ga hq)))))) :: (a5, .inr (1, [.ref a12, .ref a13])) :: (a12, .inl (y 3, 2, .inr (.inr (.inr (.inr (gRf gb lq)))))) :: (a13, .inl (y 2, 2, .inl lfl)) :: T) H := hP
                                    have hD : va_D A ((a0, .inr (4, [.ref a1, .ref a2, .ref a3, .ref a4, .ref a5])) :: (a1, .inr (3, [.ref a6, .int tn])) :: (a6, .inl (y 1, 120, .inl tf)) :: (a2, soF a7 a8 r) :: (a7, soV y r) :: (a8, soW y r) :: (a3, soF a9 a10 q103.2) :: (a9, soV y q103.2) :: (a10, soW y q103.2) :: (a4, .inr (0, [.ref a11, .int qz, .int qn])) :: (a11, .inl (y 3, 14, .inr (.inr (.inr (.inr (gRf ga hq)))))) :: (a5, .inr (1, [.ref a12, .ref a13])) :: (a12, .inl (y 3, 2, .inr (.inr (.inr (.inr (gRf gb lq)))))) :: (a13, .inl (y 2, 2, .inl lfl)) :: T) := hD
                                    refine W.widen (k := 5) (n := 92) (Nat.le_of_ble_eq_true rfl) (Nat.le_of_ble_eq_true rfl) ?_
                                    rw [← hT] at hP hD
                                    exact W.iret (v := q103.1) hx hb hr (fun t ht hW => ⟨⟨q103.1, ⟨tn, tf, r, q103.2, qz, qn, hq, lq, lfl⟩, rfl, hF, ⟨ga, gb, by rw [ht]; exact hP, hD⟩⟩, hS.F ht⟩) hS.2.2 dL_call_207
                                  · have hF := hF.trans (if_neg c_99)
                                    by_cases c_104 : p1 = 17
                                    · have hF := hF.trans (if_pos c_104)
                                      refine lv_tableIn (off := 207) (tgt := 208) hx hb dL_call_1 (by rw [c_104]; decide) (by rw [c_104]; decide) (by rw [c_104]; rfl) (by decide) ?_
                                      refine lv_aload_n hx hb dL_call_208 rfl (lv_at hl 0 rfl) ?_
                                      refine lv_iload_n hx hb dL_call_209 rfl (lv_at hl 2 rfl) ?_
                                      refine lv_iload_n hx hb dL_call_210 rfl (lv_at hl 3 rfl) ?_
                                      refine xl_calli (vx_runSW (As := [.ref a0, .int p2, .int p3]) (rest := []) ⟨hx, hb, hml, hown, hts⟩ (c_L_tryBest l hst D y a0 a1 a2 a3 a4 a5 a7 a8 a9 a10 s.heap.size r rc p2 p3 ho) (vx_cwSW 3 hts gL_call_L_tryBest rfl rfl rfl hd_L_tryBest ⟨Nat.le_of_ble_eq_true rfl, Nat.le_of_ble_eq_true rfl⟩) (lS hE hXE hLN hXZ hS hA (hP.sub [0, 3, 4, 5, 6, 7, 8] rfl) (hD.sub [0, 3, 4, 5, 6, 7, 8] (by decide) rfl)) rfl rfl hl.1 rfl (lv_room (Nat.le_of_ble_eq_true rfl)) dL_call_211 ⟨Nat.le_of_ble_eq_true rfl, Nat.le_of_ble_eq_true rfl⟩) hP hD hS hA [0, 3, 4, 5, 6, 7, 8] rfl (by decide) (fun _ => rfl) (fun v107 u106 H locs h105 hP hD hS => ?_)
                                      obtain ⟨q108, eq108⟩ : ∃ z : Int32 × gR, f_L_tryBest r rc p2 p3 = z := ⟨_, rfl⟩
                                      obtain ⟨rfl, rfl⟩ : q108.1 = v107 ∧ q108.2 = u106 := ⟨by rw [← eq108, h105], by rw [← eq108, h105]⟩
                                      have hF := hF.trans (gLet_e eq108)
                                      have hP : va_P D vwCl ((a0, .inr (4, [.ref a1, .ref a2, .ref a3, .ref a4, .ref a5])) :: (a1, .inr (3, [.ref a6, .int tn])) :: (a6, .inl (y 1, 120, .inl tf)) :: (a2, soF a7 a8 r) :: (a7, soV y r) :: (a8, soW y r) :: (a3, soF a9 a10 q108.2) :: (a9, soV y q108.2) :: (a10, soW y q108.2) :: (a4, .inr (0, [.ref a11, .int qz, .int qn])) :: (a11, .inl (y 3, 14, .inr (.inr (.inr (.inr (gRf ga hq)))))) :: (a5, .inr (1, [.ref a12, .ref a13])) :: (a12, .inl (y 3, 2, .inr (.inr (.inr (.inr (gRf gb lq)))))) :: (a13, .inl (y 2, 2, .inl lfl)) :: T) H := hP
                                      have hD : va_D A ((a0, .inr (4, [.ref a1, .ref a2, .ref a3, .ref a4, .ref a5])) :: (a1, .inr (3, [.ref a6, .int tn])) :: (a6, .inl (y 1, 120, .inl tf)) :: (a2, soF a7 a8 r) :: (a7, soV y r) :: (a8, soW y r) :: (a3, soF a9 a10 q108.2) :: (a9, soV y q108.2) :: (a10, soW y q108.2) :: (a4, .inr (0, [.ref a11, .int qz, .int qn])) :: (a11, .inl (y 3, 14, .inr (.inr (.inr (.inr (gRf ga hq)))))) :: (a5, .inr (1, [.ref a12, .ref a13])) :: (a12, .inl (y 3, 2, .inr (.inr (.inr (.inr (gRf gb lq)))))) :: (a13, .inl (y 2, 2, .inl lfl)) :: T) := hD
                                      refine W.widen (k := 5) (n := 92) (Nat.le_of_ble_eq_true rfl) (Nat.le_of_ble_eq_true rfl) ?_
                                      rw [← hT] at hP hD
                                      exact W.iret (v := q108.1) hx hb hr (fun t ht hW => ⟨⟨q108.1, ⟨tn, tf, r, q108.2, qz, qn, hq, lq, lfl⟩, rfl, hF, ⟨ga, gb, by rw [ht]; exact hP, hD⟩⟩, hS.F ht⟩) hS.2.2 dL_call_214
                                    · have hF := hF.trans (if_neg c_104)
                                      by_cases c_109 : p1 = 18
                                      · have hF := hF.trans (if_pos c_109)
                                        refine lv_tableIn (off := 214) (tgt := 215) hx hb dL_call_1 (by rw [c_109]; decide) (by rw [c_109]; decide) (by rw [c_109]; rfl) (by decide) ?_
                                        refine lv_aload_n hx hb dL_call_215 rfl (lv_at hl 0 rfl) ?_
                                        refine lv_iload_n hx hb dL_call_216 rfl (lv_at hl 2 rfl) ?_
                                        refine xl_calli (vx_runSW (As := [.ref a0, .int p2]) (rest := []) ⟨hx, hb, hml, hown, hts⟩ (c_L_tryMoves l hst D y a0 a1 a2 a3 a4 a5 a7 a8 s.heap.size r p2 ho) (vx_cwSW 2 hts gL_call_L_tryMoves rfl rfl rfl hd_L_tryMoves ⟨Nat.le_of_ble_eq_true rfl, Nat.le_of_ble_eq_true rfl⟩) (lS hE hXE hLN hXZ hS hA (hP.sub [0, 3, 4, 5] rfl) (hD.sub [0, 3, 4, 5] (by decide) rfl)) rfl rfl hl.1 rfl (lv_room (Nat.le_of_ble_eq_true rfl)) dL_call_217 ⟨Nat.le_of_ble_eq_true rfl, Nat.le_of_ble_eq_true rfl⟩) hP hD hS hA [0, 3, 4, 5] rfl (by decide) (fun _ => rfl) (fun v112 u111 H locs h110 hP hD hS => ?_)
                                        obtain ⟨q113, eq113⟩ : ∃ z : Int32, f_L_tryMoves r p2 = z := ⟨_, rfl⟩
                                        obtain rfl : q113 = v112 := by rw [← eq113, h110]
                                        have hF := hF.trans (gLet_e eq113)
                                        have hP : va_P D vwCl ((a0, .inr (4, [.ref a1, .ref a2, .ref a3, .ref a4, .ref a5])) :: (a1, .inr (3, [.ref a6, .int tn])) :: (a6, .inl (y 1, 120, .inl tf)) :: (a2, soF a7 a8 r) :: (a7, soV y r) :: (a8, soW y r) :: (a3, soF a9 a10 rc) :: (a9, soV y rc) :: (a10, soW y rc) :: (a4, .inr (0, [.ref a11, .int qz, .int qn])) :: (a11, .inl (y 3, 14, .inr (.inr (.inr (.inr (gRf ga hq)))))) :: (a5, .inr (1, [.ref a12, .ref a13])) :: (a12, .inl (y 3, 2, .inr (.inr (.inr (.inr (gRf gb lq)))))) :: (a13, .inl (y 2, 2, .inl lfl)) :: T) H := hP
                                        have hD : va_D A ((a0, .inr (4, [.ref a1, .ref a2, .ref a3, .ref a4, .ref a5])) :: (a1, .inr (3, [.ref a6, .int tn])) :: (a6, .inl (y 1, 120, .inl tf)) :: (a2, soF a7 a8 r) :: (a7, soV y r) :: (a8, soW y r) :: (a3, soF a9 a10 rc) :: (a9, soV y rc) :: (a10, soW y rc) :: (a4, .inr (0, [.ref a11, .int qz, .int qn])) :: (a11, .inl (y 3, 14, .inr (.inr (.inr (.inr (gRf ga hq)))))) :: (a5, .inr (1, [.ref a12, .ref a13])) :: (a12, .inl (y 3, 2, .inr (.inr (.inr (.inr (gRf gb lq)))))) :: (a13, .inl (y 2, 2, .inl lfl)) :: T) := hD
                                        refine W.widen (k := 5) (n := 92) (Nat.le_of_ble_eq_true rfl) (Nat.le_of_ble_eq_true rfl) ?_
                                        rw [← hT] at hP hD
                                        exact W.iret (v := q113) hx hb hr (fun t ht hW => ⟨⟨q113, ⟨tn, tf, r, rc, qz, qn, hq, lq, lfl⟩, rfl, hF, ⟨ga, gb, by rw [ht]; exact hP, hD⟩⟩, hS.F ht⟩) hS.2.2 dL_call_220
                                      · have hF := hF.trans (if_neg c_109)
                                        by_cases c_114 : p1 = 19
                                        · have hF := hF.trans (if_pos c_114)
                                          refine lv_tableIn (off := 220) (tgt := 221) hx hb dL_call_1 (by rw [c_114]; decide) (by rw [c_114]; decide) (by rw [c_114]; rfl) (by decide) ?_
                                          refine lv_aload_n hx hb dL_call_221 rfl (lv_at hl 0 rfl) ?_
                                          refine lv_iload_n hx hb dL_call_222 rfl (lv_at hl 2 rfl) ?_
                                          refine lv_iload_n hx hb dL_call_223 rfl (lv_at hl 3 rfl) ?_
                                          refine xl_calli (vx_runSW (As := [.ref a0, .int p2, .int p3]) (rest := []) ⟨hx, hb, hml, hown, hts⟩ (c_L_tryBehind l hst D y a0 a1 a2 a3 a4 a5 a7 a8 s.heap.size r p2 p3 ho) (vx_cwSW 3 hts gL_call_L_tryBehind rfl rfl rfl hd_L_tryBehind ⟨Nat.le_of_ble_eq_true rfl, Nat.le_of_ble_eq_true rfl⟩) (lS hE hXE hLN hXZ hS hA (hP.sub [0, 3, 4, 5] rfl) (hD.sub [0, 3, 4, 5] (by decide) rfl)) rfl rfl hl.1 rfl (lv_room (Nat.le_of_ble_eq_true rfl)) dL_call_224 ⟨Nat.le_of_ble_eq_true rfl, Nat.le_of_ble_eq_true rfl⟩) hP hD hS hA [0, 3, 4, 5] rfl (by decide) (fun _ => rfl) (fun v117 u116 H locs h115 hP hD hS => ?_)
                                          obtain ⟨q118, eq118⟩ : ∃ z : Int32, f_L_tryBehind r p2 p3 = z := ⟨_, rfl⟩
                                          obtain rfl : q118 = v117 := by rw [← eq118, h115]
                                          have hF := hF.trans (gLet_e eq118)
                                          have hP : va_P D vwCl ((a0, .inr (4, [.ref a1, .ref a2, .ref a3, .ref a4, .ref a5])) :: (a1, .inr (3, [.ref a6, .int tn])) :: (a6, .inl (y 1, 120, .inl tf)) :: (a2, soF a7 a8 r) :: (a7, soV y r) :: (a8, soW y r) :: (a3, soF a9 a10 rc) :: (a9, soV y rc) :: (a10, soW y rc) :: (a4, .inr (0, [.ref a11, .int qz, .int qn])) :: (a11, .inl (y 3, 14, .inr (.inr (.inr (.inr (gRf ga hq)))))) :: (a5, .inr (1, [.ref a12, .ref a13])) :: (a12, .inl (y 3, 2, .inr (.inr (.inr (.inr (gRf gb lq)))))) :: (a13, .inl (y 2, 2, .inl lfl)) :: T) H := hP
                                          have hD : va_D A ((a0, .inr (4, [.ref a1, .ref a2, .ref a3, .ref a4, .ref a5])) :: (a1, .inr (3, [.ref a6, .int tn])) :: (a6, .inl (y 1, 120, .inl tf)) :: (a2, soF a7 a8 r) :: (a7, soV y r) :: (a8, soW y r) :: (a3, soF a9 a10 rc) :: (a9, soV y rc) :: (a10, soW y rc) :: (a4, .inr (0, [.ref a11, .int qz, .int qn])) :: (a11, .inl (y 3, 14, .inr (.inr (.inr (.inr (gRf ga hq)))))) :: (a5, .inr (1, [.ref a12, .ref a13])) :: (a12, .inl (y 3, 2, .inr (.inr (.inr (.inr (gRf gb lq)))))) :: (a13, .inl (y 2, 2, .inl lfl)) :: T) := hD
                                          refine W.widen (k := 5) (n := 92) (Nat.le_of_ble_eq_true rfl) (Nat.le_of_ble_eq_true rfl) ?_
                                          rw [← hT] at hP hD
                                          exact W.iret (v := q118) hx hb hr (fun t ht hW => ⟨⟨q118, ⟨tn, tf, r, rc, qz, qn, hq, lq, lfl⟩, rfl, hF, ⟨ga, gb, by rw [ht]; exact hP, hD⟩⟩, hS.F ht⟩) hS.2.2 dL_call_227
                                        · have hF := hF.trans (if_neg c_114)
                                          by_cases c_119 : p1 = 20
                                          · have hF := hF.trans (if_pos c_119)
                                            refine lv_tableIn (off := 227) (tgt := 228) hx hb dL_call_1 (by rw [c_119]; decide) (by rw [c_119]; decide) (by rw [c_119]; rfl) (by decide) ?_
                                            refine lv_aload_n hx hb dL_call_228 rfl (lv_at hl 0 rfl) ?_
                                            refine lv_iload_n hx hb dL_call_229 rfl (lv_at hl 2 rfl) ?_
                                            rw [← hT] at hP hD
                                            refine xw_callEi (vx_runSW (As := [.ref a0, .int p2]) (rest := []) ⟨hx, hb, hml, hown, hts⟩ (c_L_tryKeep l hst D y a0 a1 a2 a3 a4 a5 a6 a7 a8 a9 a10 a11 a12 a13 ga gb s.heap.size tn tf r rc qz qn hq lq lfl p2 ho) (vx_cwSW 2 hts gL_call_L_tryKeep rfl rfl rfl hd_L_tryKeep ⟨Nat.le_of_ble_eq_true rfl, Nat.le_of_ble_eq_true rfl⟩) (lS hE hXE hLN hXZ hS hA hP hD) rfl rfl hl.1 rfl (lv_room (Nat.le_of_ble_eq_true rfl)) dL_call_230 ⟨Nat.le_of_ble_eq_true rfl, Nat.le_of_ble_eq_true rfl⟩) hD hS hA (fun v124 u121 ga122 gb123 H locs h120 hP hD hS => ?_)
                                            obtain ⟨q125, eq125⟩ : ∃ z : Int32 × (Nat → Option gR) × (Nat → Int32), f_L_tryKeep tn tf r rc qz qn hq lq lfl p2 = z := ⟨_, rfl⟩
                                            obtain ⟨rfl, rfl⟩ : q125.1 = v124 ∧ q125.2 = u121 := ⟨by rw [← eq125, h120], by rw [← eq125, h120]⟩
                                            have hF := hF.trans (gLet_e eq125)
                                            have hP : va_P D vwCl ((a0, .inr (4, [.ref a1, .ref a2, .ref a3, .ref a4, .ref a5])) :: (a1, .inr (3, [.ref a6, .int tn])) :: (a6, .inl (y 1, 120, .inl tf)) :: (a2, soF a7 a8 r) :: (a7, soV y r) :: (a8, soW y r) :: (a3, soF a9 a10 rc) :: (a9, soV y rc) :: (a10, soW y rc) :: (a4, .inr (0, [.ref a11, .int qz, .int qn])) :: (a11, .inl (y 3, 14, .inr (.inr (.inr (.inr (gRf ga122 hq)))))) :: (a5, .inr (1, [.ref a12, .ref a13])) :: (a12, .inl (y 3, 2, .inr (.inr (.inr (.inr (gRf gb123 q125.2.1)))))) :: (a13, .inl (y 2, 2, .inl q125.2.2)) :: gTail y ga122 gb123 hq q125.2.1) H := hP
                                            have hD : va_D A ((a0, .inr (4, [.ref a1, .ref a2, .ref a3, .ref a4, .ref a5])) :: (a1, .inr (3, [.ref a6, .int tn])) :: (a6, .inl (y 1, 120, .inl tf)) :: (a2, soF a7 a8 r) :: (a7, soV y r) :: (a8, soW y r) :: (a3, soF a9 a10 rc) :: (a9, soV y rc) :: (a10, soW y rc) :: (a4, .inr (0, [.ref a11, .int qz, .int qn])) :: (a11, .inl (y 3, 14, .inr (.inr (.inr (.inr (gRf ga122 hq)))))) :: (a5, .inr (1, [.ref a12, .ref a13])) :: (a12, .inl (y 3, 2, .inr (.inr (.inr (.inr (gRf gb123 q125.2.1)))))) :: (a13, .inl (y 2, 2, .inl q125.2.2)) :: gTail y ga122 gb123 hq q125.2.1) := hD
                                            obtain ⟨T126, hT126⟩ : ∃ T : va_W, gTail y ga122 gb123 hq q125.2.1 = T := ⟨_, rfl⟩
                                            rw [hT126] at hP hD
                                            refine W.widen (k := 5) (n := 92) (Nat.le_of_ble_eq_true rfl) (Nat.le_of_ble_eq_true rfl) ?_
                                            rw [← hT126] at hP hD
                                            exact W.iret (v := q125.1) hx hb hr (fun t ht hW => ⟨⟨q125.1, ⟨tn, tf, r, rc, qz, qn, hq, q125.2.1, q125.2.2⟩, rfl, hF, ⟨ga122, gb123, by rw [ht]; exact hP, hD⟩⟩, hS.F ht⟩) hS.2.2 dL_call_233
                                          · have hF := hF.trans (if_neg c_119)
                                            refine lv_tableOut (tgt := 234) hx hb dL_call_1 (by have q := And.intro trivial trivial; have q0 := sw_ne c_1 (n := 0) (by decide); have q1 := sw_ne c_6 (n := 1) (by decide); have q2 := sw_ne c_11 (n := 2) (by decide); have q3 := sw_ne c_16 (n := 3) (by decide); have q4 := sw_ne c_21 (n := 4) (by decide); have q5 := sw_ne c_26 (n := 5) (by decide); have q6 := sw_ne c_31 (n := 6) (by decide); have q7 := sw_ne c_36 (n := 7) (by decide); have q8 := sw_ne c_41 (n := 8) (by decide); have q9 := sw_ne c_49 (n := 9) (by decide); have q10 := sw_ne c_57 (n := 10) (by decide); have q11 := sw_ne c_65 (n := 11) (by decide); have q12 := sw_ne c_73 (n := 12) (by decide); have q13 := sw_ne c_81 (n := 13) (by decide); have q14 := sw_ne c_89 (n := 14) (by decide); have q15 := sw_ne c_94 (n := 15) (by decide); have q16 := sw_ne c_99 (n := 16) (by decide); have q17 := sw_ne c_104 (n := 17) (by decide); have q18 := sw_ne c_109 (n := 18) (by decide); have q19 := sw_ne c_114 (n := 19) (by decide); have q20 := sw_ne c_119 (n := 20) (by decide); omega) (by decide) ?_
                                            refine lv_aload_n hx hb dL_call_234 rfl (lv_at hl 0 rfl) ?_
                                            refine lv_iload_n hx hb dL_call_235 rfl (lv_at hl 2 rfl) ?_
                                            rw [← hT] at hP hD
                                            refine xw_callEi (vx_runSW (As := [.ref a0, .int p2]) (rest := []) ⟨hx, hb, hml, hown, hts⟩ (c_L_tryBack l hst D y a0 a1 a2 a3 a4 a5 a6 a7 a8 a9 a10 a11 a12 a13 ga gb s.heap.size tn tf r rc qz qn hq lq lfl p2 hlq) (vx_cwSW 2 hts gL_call_L_tryBack rfl rfl rfl hd_L_tryBack ⟨Nat.le_of_ble_eq_true rfl, Nat.le_of_ble_eq_true rfl⟩) (lS hE hXE hLN hXZ hS hA hP hD) rfl rfl hl.1 rfl (lv_room (Nat.le_of_ble_eq_true rfl)) dL_call_236 ⟨Nat.le_of_ble_eq_true rfl, Nat.le_of_ble_eq_true rfl⟩) hD hS hA (fun v131 u128 ga129 gb130 H locs h127 hP hD hS => ?_)
                                            obtain ⟨q132, eq132⟩ : ∃ z : Int32 × gR × Int32, f_L_tryBack tn tf r rc qz qn hq lq lfl p2 = z := ⟨_, rfl⟩
                                            obtain ⟨rfl, rfl⟩ : q132.1 = v131 ∧ q132.2 = u128 := ⟨by rw [← eq132, h127], by rw [← eq132, h127]⟩
                                            have hF := hF.trans (gLet_e eq132)
                                            have hP : va_P D vwCl ((a0, .inr (4, [.ref a1, .ref a2, .ref a3, .ref a4, .ref a5])) :: (a1, .inr (3, [.ref a6, .int tn])) :: (a6, .inl (y 1, 120, .inl tf)) :: (a2, soF a7 a8 q132.2.1) :: (a7, soV y q132.2.1) :: (a8, soW y q132.2.1) :: (a3, soF a9 a10 rc) :: (a9, soV y rc) :: (a10, soW y rc) :: (a4, .inr (0, [.ref a11, .int q132.2.2, .int qn])) :: (a11, .inl (y 3, 14, .inr (.inr (.inr (.inr (gRf ga129 hq)))))) :: (a5, .inr (1, [.ref a12, .ref a13])) :: (a12, .inl (y 3, 2, .inr (.inr (.inr (.inr (gRf gb130 lq)))))) :: (a13, .inl (y 2, 2, .inl lfl)) :: gTail y ga129 gb130 hq lq) H := hP
                                            have hD : va_D A ((a0, .inr (4, [.ref a1, .ref a2, .ref a3, .ref a4, .ref a5])) :: (a1, .inr (3, [.ref a6, .int tn])) :: (a6, .inl (y 1, 120, .inl tf)) :: (a2, soF a7 a8 q132.2.1) :: (a7, soV y q132.2.1) :: (a8, soW y q132.2.1) :: (a3, soF a9 a10 rc) :: (a9, soV y rc) :: (a10, soW y rc) :: (a4, .inr (0, [.ref a11, .int q132.2.2, .int qn])) :: (a11, .inl (y 3, 14, .inr (.inr (.inr (.inr (gRf ga129 hq)))))) :: (a5, .inr (1, [.ref a12, .ref a13])) :: (a12, .inl (y 3, 2, .inr (.inr (.inr (.inr (gRf gb130 lq)))))) :: (a13, .inl (y 2, 2, .inl lfl)) :: gTail y ga129 gb130 hq lq) := hD
                                            obtain ⟨T133, hT133⟩ : ∃ T : va_W, gTail y ga129 gb130 hq lq = T := ⟨_, rfl⟩
                                            rw [hT133] at hP hD
                                            refine W.widen (k := 5) (n := 92) (Nat.le_of_ble_eq_true rfl) (Nat.le_of_ble_eq_true rfl) ?_
                                            rw [← hT133] at hP hD
                                            exact W.iret (v := q132.1) hx hb hr (fun t ht hW => ⟨⟨q132.1, ⟨tn, tf, q132.2.1, rc, q132.2.2, qn, hq, lq, lfl⟩, rfl, hF, ⟨ga129, gb130, by rw [ht]; exact hP, hD⟩⟩, hS.F ht⟩) hS.2.2 dL_call_239

def f_L_thrown (p0 : Int32) : Int32 :=
    if p0 = (-9999001) then
    1
  else
    if p0 = (-9999002) then
      1
    else
      if p0 = (-9999003) then
        1
      else
        0
theorem f_L_thrown_s (p0 : Int32) : f_L_thrown p0 =
    (if p0 = (-9999001) then
    1
  else
    if p0 = (-9999002) then
      1
    else
      if p0 = (-9999003) then
        1
      else
        0) := rfl
theorem hd_L_thrown : yL_thrown.cls ≠ "java/lang/invoke/MethodHandle" ∧ yL_thrown.cls ≠ "java/lang/invoke/VarHandle" ∧ (parseMethodDescriptor yL_thrown.desc).map (fun d => d.parameters.length) = some 1 := by decide +kernel
set_option maxHeartbeats 4000000 in
set_option maxRecDepth 100000 in
theorem c_L_thrown (l : Launch) (D : va_G) (y : Nat → ClassId) (zh : Nat) (p0 : Int32) : Met l yL_thrown wsL_thrown ({ frames := 0, cells := 0, slots := 0, locals := 0 }) (gP D y [.int p0] zh []) (vp_Si (fun v : Int32 => f_L_thrown p0 = v)) 0 0 (fun _ => False) := by
  refine Met.ofW (cc := cL_thrown) (maxL := 1) (ret := (some .boolean)) (by decide) rfl ?_
  intro p e s m args below meth c s₁ B hml hv
  obtain ⟨rfl, hsz, hP, hE, hD⟩ := hv
  have hx := B.exec
  have hb := B.bytes
  have hr := B.returns
  have hts := atoms_spec (ws := wsL_thrown) B.pre
  have hown : s.vm.findClass RL = some m.cls := findClass_of_methodNamed B.named
  have hlocks := B.notSynchronized
  have w_0 := hts (.constant RL 39 (-9999001)) (List.mem_cons_of_mem _ (List.mem_of_getElem? (i := 0) rfl))
  have w_1 := hts (.constant RL 15 (-9999002)) (List.mem_cons_of_mem _ (List.mem_of_getElem? (i := 1) rfl))
  have w_2 := hts (.constant RL 26 (-9999003)) (List.mem_cons_of_mem _ (List.mem_of_getElem? (i := 2) rfl))
  have hl := lv_entry ([.int p0]) (n := 1) (Nat.le_of_ble_eq_true rfl)
  rw [lg_entry_eq]
  generalize (lg_sl ([.int p0]) ++ List.replicate (1 - (lg_sl ([.int p0])).length) Slot.unset).toArray = ls at hl ⊢
  have hl : lv_has ls 1 [(0, .int p0)] := hl
  have hF := f_L_thrown_s p0
  refine lv_iload_n hx hb dL_thrown_0 rfl (lv_at hl 0 rfl) ?_
  refine lv_ldc (v := (-9999001)) hx hb hown w_0 dL_thrown_1 ?_
  refine lv_icmp_eq (tgt := 18) hx hb dL_thrown_3 (by decide) (fun c_1 => ?_) (fun c_1 => ?_)
  · have hF := hF.trans (if_pos c_1)
    refine lv_iconst (v := 1) hx hb dL_thrown_18 (by decide) ?_
    refine lv_goto (tgt := 23) hx hb dL_thrown_19 (by decide) ?_
    exact W.zret (v := 1) hx hb hr rfl (fun t ht hW => ⟨1, rfl, hF, ht⟩) (fun _ h => nomatch h) dL_thrown_23
  · have hF := hF.trans (if_neg c_1)
    refine lv_iload_n hx hb dL_thrown_6 rfl (lv_at hl 0 rfl) ?_
    refine lv_ldc (v := (-9999002)) hx hb hown w_1 dL_thrown_7 ?_
    refine lv_icmp_eq (tgt := 18) hx hb dL_thrown_9 (by decide) (fun c_2 => ?_) (fun c_2 => ?_)
    · have hF := hF.trans (if_pos c_2)
      refine lv_iconst (v := 1) hx hb dL_thrown_18 (by decide) ?_
      refine lv_goto (tgt := 23) hx hb dL_thrown_19 (by decide) ?_
      exact W.zret (v := 1) hx hb hr rfl (fun t ht hW => ⟨1, rfl, hF, ht⟩) (fun _ h => nomatch h) dL_thrown_23
    · have hF := hF.trans (if_neg c_2)
      refine lv_iload_n hx hb dL_thrown_12 rfl (lv_at hl 0 rfl) ?_
      refine lv_ldc (v := (-9999003)) hx hb hown w_2 dL_thrown_13 ?_
      refine lv_icmp_ne (tgt := 22) hx hb dL_thrown_15 (by decide) (fun c_3 => ?_) (fun c_3 => ?_)
      · have hF := hF.trans (if_neg c_3)
        refine lv_iconst (v := 0) hx hb dL_thrown_22 (by decide) ?_
        exact W.zret (v := 0) hx hb hr rfl (fun t ht hW => ⟨0, rfl, hF, ht⟩) (fun _ h => nomatch h) dL_thrown_23
      · have hF := hF.trans (if_pos c_3)
        refine lv_iconst (v := 1) hx hb dL_thrown_18 (by decide) ?_
        refine lv_goto (tgt := 23) hx hb dL_thrown_19 (by decide) ?_
        exact W.zret (v := 1) hx hb hr rfl (fun t ht hW => ⟨1, rfl, hF, ht⟩) (fun _ h => nomatch h) dL_thrown_23
