/-! THE CLASS: LOOPS -/
theorem dn_dec {x : Int32} {n : Nat} (h : ¬ x ≤ 0) (hμ : x.toInt.toNat < n + 1) : (x + (-1)).toInt.toNat < n := by
  have h1 := i_lt.mp (Int32.not_le.mp h)
  have e : (0 : Int32).toInt = 0 := (by decide)
  have e1 : (-1 : Int32).toInt = -1 := (by decide)
  have h2 := i_hi x
  rw [i_add (by omega) (by omega), e1]
  omega
theorem dn_1 {x : Int32} (h : ¬ x < 1) : ¬ x ≤ 0 := by
  intro h0
  have h1 := i_le.mp (Int32.not_lt.mp h)
  have h2 := i_le.mp h0
  have e : (0 : Int32).toInt = 0 := by decide
  have e1 : (1 : Int32).toInt = 1 := by decide
  omega
theorem ok_X1_succeeds (r : gR) (p1 : Int32) (ho : okC r) : okC (f_X1_succeeds r p1).2 := by
  unfold f_X1_succeeds
  refine gLet_i (P := fun z : Int32 × gR => okC z.2) (fun v1 ev1 => ?_)
  refine gLet_i (P := fun z : Int32 × gR => okC z.2) (fun v2 ev2 => ?_)
  refine gLet_i (P := fun z : Int32 × gR => okC z.2) (fun v3 ev3 => ?_)
  refine gLet_i (P := fun z : Int32 × gR => okC z.2) (fun v4 ev4 => ?_)
  refine gIf_i (P := fun z : Int32 × gR => okC z.2) (fun _ => ?_) (fun _ => ?_)
  · refine gLet_i (P := fun z : Int32 × gR => okC z.2) (fun q9 eq9 => ?_)
    have ok_q9 : okC q9.2 := by rw [← eq9]; exact (ok_X3_doWrite _ _ _ ho)
    exact (show okC (q9.2) from ok_q9)
  · refine gIf_i (P := fun z : Int32 × gR => okC z.2) (fun _ => ?_) (fun _ => ?_)
    · refine gLet_i (P := fun z : Int32 × gR => okC z.2) (fun q14 eq14 => ?_)
      have ok_q14 : okC q14.2 := by rw [← eq14]; exact (ok_X3_doHammer _ _ _ ho)
      exact (show okC (q14.2) from ok_q14)
    · refine gIf_i (P := fun z : Int32 × gR => okC z.2) (fun _ => ?_) (fun _ => ?_)
      · refine gLet_i (P := fun z : Int32 × gR => okC z.2) (fun q19 eq19 => ?_)
        have ok_q19 : okC q19.2 := by rw [← eq19]; exact (ok_X3_doAll _ _ ho)
        exact (show okC (q19.2) from ok_q19)
      · refine gIf_i (P := fun z : Int32 × gR => okC z.2) (fun _ => ?_) (fun _ => ?_)
        · refine gLet_i (P := fun z : Int32 × gR => okC z.2) (fun v21 ev21 => ?_)
          refine gIf_i (P := fun z : Int32 × gR => okC z.2) (fun _ => ?_) (fun _ => ?_)
          · refine gLet_i (P := fun z : Int32 × gR => okC z.2) (fun v23 ev23 => ?_)
            refine gLet_i (P := fun z : Int32 × gR => okC z.2) (fun q27 eq27 => ?_)
            have ok_q27 : okC q27.2 := by rw [← eq27]; exact (ok_X3_doSet _ _ _ ho)
            refine gIf_i (P := fun z : Int32 × gR => okC z.2) (fun _ => ?_) (fun _ => ?_)
            · exact (show okC (q27.2) from ok_q27)
            · exact (show okC (q27.2) from ok_q27)
          · exact (show okC (r) from ho)
        · refine gIf_i (P := fun z : Int32 × gR => okC z.2) (fun _ => ?_) (fun _ => ?_)
          · refine gLet_i (P := fun z : Int32 × gR => okC z.2) (fun v31 ev31 => ?_)
            refine gIf_i (P := fun z : Int32 × gR => okC z.2) (fun _ => ?_) (fun _ => ?_)
            · exact (show okC (r) from ho)
            · refine gLet_i (P := fun z : Int32 × gR => okC z.2) (fun v34 ev34 => ?_)
              refine gIf_i (P := fun z : Int32 × gR => okC z.2) (fun _ => ?_) (fun _ => ?_)
              · exact (show okC (r) from ho)
              · exact (show okC (r) from ho)
          · refine gIf_i (P := fun z : Int32 × gR => okC z.2) (fun _ => ?_) (fun _ => ?_)
            · refine gLet_i (P := fun z : Int32 × gR => okC z.2) (fun v38 ev38 => ?_)
              refine gIf_i (P := fun z : Int32 × gR => okC z.2) (fun _ => ?_) (fun _ => ?_)
              · exact (show okC (r) from ho)
              · refine gLet_i (P := fun z : Int32 × gR => okC z.2) (fun v41 ev41 => ?_)
                refine gIf_i (P := fun z : Int32 × gR => okC z.2) (fun _ => ?_) (fun _ => ?_)
                · exact (show okC (r) from ho)
                · exact (show okC (r) from ho)
            · refine gIf_i (P := fun z : Int32 × gR => okC z.2) (fun _ => ?_) (fun _ => ?_)
              · refine gLet_i (P := fun z : Int32 × gR => okC z.2) (fun v45 ev45 => ?_)
                refine gIf_i (P := fun z : Int32 × gR => okC z.2) (fun _ => ?_) (fun _ => ?_)
                · exact (show okC (r) from ho)
                · refine gLet_i (P := fun z : Int32 × gR => okC z.2) (fun v48 ev48 => ?_)
                  refine gIf_i (P := fun z : Int32 × gR => okC z.2) (fun _ => ?_) (fun _ => ?_)
                  · exact (show okC (r) from ho)
                  · exact (show okC (r) from ho)
              · refine gIf_i (P := fun z : Int32 × gR => okC z.2) (fun _ => ?_) (fun _ => ?_)
                · refine gLet_i (P := fun z : Int32 × gR => okC z.2) (fun v52 ev52 => ?_)
                  refine gIf_i (P := fun z : Int32 × gR => okC z.2) (fun _ => ?_) (fun _ => ?_)
                  · exact (show okC (r) from ho)
                  · refine gIf_i (P := fun z : Int32 × gR => okC z.2) (fun _ => ?_) (fun _ => ?_)
                    · refine gIf_i (P := fun z : Int32 × gR => okC z.2) (fun _ => ?_) (fun _ => ?_)
                      · exact (show okC (r) from ho)
                      · exact (show okC (r) from ho)
                    · refine gIf_i (P := fun z : Int32 × gR => okC z.2) (fun _ => ?_) (fun _ => ?_)
                      · exact (show okC (r) from ho)
                      · exact (show okC (r) from ho)
                · refine gIf_i (P := fun z : Int32 × gR => okC z.2) (fun _ => ?_) (fun _ => ?_)
                  · refine gLet_i (P := fun z : Int32 × gR => okC z.2) (fun v59 ev59 => ?_)
                    refine gIf_i (P := fun z : Int32 × gR => okC z.2) (fun _ => ?_) (fun _ => ?_)
                    · exact (show okC (r) from ho)
                    · refine gIf_i (P := fun z : Int32 × gR => okC z.2) (fun _ => ?_) (fun _ => ?_)
                      · exact (show okC (r) from ho)
                      · exact (show okC (r) from ho)
                  · exact (show okC (r) from ho)

def f_X5_bestEvery_L25 (r : gR) (p0 : Int32) (p1 : Int32) : Nat → Int32 → Int32 → Int32 → gR → Nat × Int32 × gR
  | 0, _, _, _, rc_ => (0, 0, rc_)
  | n + 1, x3, x4, x5, rc_ =>
    if x5 < 1 then
    (0, x3, rc_)
  else
    gLet (f_X5_wearIfEvery r rc_ p0 x5 p1) (fun (q5 : Int32 × gR) =>
      if x4 ≤ q5.1 then
        f_X5_bestEvery_L25 r p0 p1 n x3 x4 (x5 + (-1)) q5.2
      else
        f_X5_bestEvery_L25 r p0 p1 n x5 q5.1 (x5 + (-1)) q5.2)
theorem f_X5_bestEvery_L25_s (r : gR) (p0 : Int32) (p1 : Int32) (n : Nat) (x3 : Int32) (x4 : Int32) (x5 : Int32) (rc_ : gR) : f_X5_bestEvery_L25 r p0 p1 (n + 1) x3 x4 x5 rc_ =
    (if x5 < 1 then
    (0, x3, rc_)
  else
    gLet (f_X5_wearIfEvery r rc_ p0 x5 p1) (fun (q5 : Int32 × gR) =>
      if x4 ≤ q5.1 then
        f_X5_bestEvery_L25 r p0 p1 n x3 x4 (x5 + (-1)) q5.2
      else
        f_X5_bestEvery_L25 r p0 p1 n x5 q5.1 (x5 + (-1)) q5.2)) := rfl
def f_X5_bestEvery (r : gR) (rc : gR) (p0 : Int32) (p1 : Int32) : Nat × Int32 × gR :=
    gLet (f_X5_requireLine r p0) (fun (n7 : Nat) =>
    if n7 = 0 then
      gLet (f_X5_requireHammered p1) (fun (n12 : Nat) =>
        if n12 = 0 then
          gLet (f_X5_wearIfEvery r rc p0 50 p1) (fun (q20 : Int32 × gR) =>
            f_X5_bestEvery_L25 r p0 p1 ((49 : Int32).toInt.toNat + 1) 50 q20.1 49 q20.2)
        else
          (n12, 0, rc))
    else
      (n7, 0, rc))
theorem f_X5_bestEvery_s (r : gR) (rc : gR) (p0 : Int32) (p1 : Int32) : f_X5_bestEvery r rc p0 p1 =
    (gLet (f_X5_requireLine r p0) (fun (n7 : Nat) =>
    if n7 = 0 then
      gLet (f_X5_requireHammered p1) (fun (n12 : Nat) =>
        if n12 = 0 then
          gLet (f_X5_wearIfEvery r rc p0 50 p1) (fun (q20 : Int32 × gR) =>
            f_X5_bestEvery_L25 r p0 p1 ((49 : Int32).toInt.toNat + 1) 50 q20.1 49 q20.2)
        else
          (n12, 0, rc))
    else
      (n7, 0, rc))) := rfl
theorem hd_X5_bestEvery : yX5_bestEvery.cls = RX5 ∧ yX5_bestEvery.cls ≠ "java/lang/invoke/MethodHandle" ∧ yX5_bestEvery.cls ≠ "java/lang/invoke/VarHandle" ∧ (parseMethodDescriptor yX5_bestEvery.desc).map (fun d => d.parameters.length) = some 2 := by decide +kernel
set_option maxHeartbeats 4000000 in
set_option maxRecDepth 100000 in
theorem c_X5_bestEvery (l : Launch) (hst : l.stackTraces = false) (D : va_G) (y : Nat → ClassId) (a0 a1 a2 a3 a4 a5 a6 a7 a8 a9 : Nat) (zh : Nat) (r : gR) (rc : gR) (p0 : Int32) (p1 : Int32) (ho : okC r) : vx_Met l yX5_bestEvery wsX5_bestEvery ({ frames := 7, cells := 2, slots := 12, locals := 113 }) (xP D y [.ref a0, .int p0, .int p1] zh [(a0, .inr (4, [.ref a1, .ref a2, .ref a3, .ref a4, .ref a5])), (a2, soF a6 a7 r), (a6, soV y r), (a7, soW y r), (a3, soF a8 a9 rc), (a8, soV y rc), (a9, soW y rc)]) (va_Qi (fun (v : Int32) (u : gR) => f_X5_bestEvery r rc p0 p1 = (0, v, u)) (fun (u : gR) t => va_P D vwCl [(a0, .inr (4, [.ref a1, .ref a2, .ref a3, .ref a4, .ref a5])), (a2, soF a6 a7 r), (a6, soV y r), (a7, soW y r), (a3, soF a8 a9 u), (a8, soV y u), (a9, soW y u)] t.heap ∧ va_D (va_A [(a0, .inr (4, [.ref a1, .ref a2, .ref a3, .ref a4, .ref a5])), (a2, soF a6 a7 r), (a6, soV y r), (a7, soW y r), (a3, soF a8 a9 rc), (a8, soV y rc), (a9, soW y rc)] zh) [(a0, .inr (4, [.ref a1, .ref a2, .ref a3, .ref a4, .ref a5])), (a2, soF a6 a7 r), (a6, soV y r), (a7, soW y r), (a3, soF a8 a9 u), (a8, soV y u), (a9, soW y u)]) (va_A [(a0, .inr (4, [.ref a1, .ref a2, .ref a3, .ref a4, .ref a5])), (a2, soF a6 a7 r), (a6, soV y r), (a7, soW y r), (a3, soF a8 a9 rc), (a8, soV y rc), (a9, soW y rc)] zh)) (vx_X (fun _ : gR => True) (fun (E : String) (u : gR) t => (f_X5_bestEvery r rc p0 p1 = (xc E, 0, u) ∧ xc E ≠ 0) ∧ (va_P D vwCl [(a0, .inr (4, [.ref a1, .ref a2, .ref a3, .ref a4, .ref a5])), (a2, soF a6 a7 r), (a6, soV y r), (a7, soW y r), (a3, soF a8 a9 u), (a8, soV y u), (a9, soW y u)] t.heap ∧ va_D (va_A [(a0, .inr (4, [.ref a1, .ref a2, .ref a3, .ref a4, .ref a5])), (a2, soF a6 a7 r), (a6, soV y r), (a7, soW y r), (a3, soF a8 a9 rc), (a8, soV y rc), (a9, soW y rc)] zh) [(a0, .inr (4, [.ref a1, .ref a2, .ref a3, .ref a4, .ref a5])), (a2, soF a6 a7 r), (a6, soV y r), (a7, soW y r), (a3, soF a8 a9 u), (a8, soV y u), (a9, soW y u)])) (va_A [(a0, .inr (4, [.ref a1, .ref a2, .ref a3, .ref a4, .ref a5])), (a2, soF a6 a7 r), (a6, soV y r), (a7, soW y r), (a3, soF a8 a9 rc), (a8, soV y rc), (a9, soW y rc)] zh)) 2 12 (va_A [(a0, .inr (4, [.ref a1, .ref a2, .ref a3, .ref a4, .ref a5])), (a2, soF a6 a7 r), (a6, soV y r), (a7, soW y r), (a3, soF a8 a9 rc), (a8, soV y rc), (a9, soW y rc)] zh) := by
  refine vx_ofW (cc := cX5_bestEvery) (maxL := 7) (ret := (some .int)) (by decide) rfl ?_
  intro p e s m args below meth c s₁ B hml htab hv
  obtain ⟨⟨rfl, hsz, hP, hE, hD⟩, hXE, hXZ⟩ := hv
  have hx := B.exec
  have hb := B.bytes
  have hr := B.returns
  have hts := atoms_spec (ws := wsX5_bestEvery) B.pre
  have hown : s.vm.findClass RX5 = some m.cls := findClass_of_methodNamed B.named
  have hlocks := B.notSynchronized
  subst hsz
  have hD := hD.self (sz := s.heap.size)
  generalize hAe : va_A [(a0, .inr (4, [.ref a1, .ref a2, .ref a3, .ref a4, .ref a5])), (a2, soF a6 a7 r), (a6, soV y r), (a7, soW y r), (a3, soF a8 a9 rc), (a8, soV y rc), (a9, soW y rc)] s.heap.size = A at hD hXZ ⊢
  have hA : ∀ q : Nat, s.heap.size ≤ q → A q := fun q h => by rw [← hAe]; exact Or.inr h
  have hS : va_S A s.heap s.heap [] := va_S.rf
  have hl := lv_entry ([.ref a0, .int p0, .int p1]) (n := 7) (Nat.le_of_ble_eq_true rfl)
  rw [lg_entry_eq]
  generalize (lg_sl ([.ref a0, .int p0, .int p1]) ++ List.replicate (7 - (lg_sl ([.ref a0, .int p0, .int p1])).length) Slot.unset).toArray = ls at hl ⊢
  have hl : lv_has ls 7 [(0, .ref a0), (1, .int p0), (2, .int p1)] := hl
  have loop_25 : ∀ (n : Nat) (x3 : Int32) (x4 : Int32) (x5 : Int32) (rc_ : gR), x5.toInt.toNat < n → f_X5_bestEvery r rc p0 p1 = f_X5_bestEvery_L25 r p0 p1 n x3 x4 x5 rc_ → ∀ (H : Heap) (locs : List Loc), va_P D vwCl [(a0, .inr (4, [.ref a1, .ref a2, .ref a3, .ref a4, .ref a5])), (a2, soF a6 a7 r), (a6, soV y r), (a7, soW y r), (a3, soF a8 a9 rc_), (a8, soV y rc_), (a9, soW y rc_)] H → va_D A [(a0, .inr (4, [.ref a1, .ref a2, .ref a3, .ref a4, .ref a5])), (a2, soF a6 a7 r), (a6, soV y r), (a7, soW y r), (a3, soF a8 a9 rc_), (a8, soV y rc_), (a9, soW y rc_)] → va_S A s.heap H locs → ∀ (ls : Array Slot), lv_has ls 7 [(0, .ref a0), (1, .int p0), (2, .int p1), (3, .int x3), (4, .int x4), (5, .int x5)] → W p l e (headSpec wsX5_bestEvery ({ frames := 7, cells := 2, slots := 12, locals := 113 })).room s m ([.ref a0, .int p0, .int p1] : List Value).toArray below meth c H locs 2 12 (vx_MQ below (va_Qi (fun (v : Int32) (u : gR) => f_X5_bestEvery r rc p0 p1 = (0, v, u)) (fun (u : gR) t => va_P D vwCl [(a0, .inr (4, [.ref a1, .ref a2, .ref a3, .ref a4, .ref a5])), (a2, soF a6 a7 r), (a6, soV y r), (a7, soW y r), (a3, soF a8 a9 u), (a8, soV y u), (a9, soW y u)] t.heap ∧ va_D (A) [(a0, .inr (4, [.ref a1, .ref a2, .ref a3, .ref a4, .ref a5])), (a2, soF a6 a7 r), (a6, soV y r), (a7, soW y r), (a3, soF a8 a9 u), (a8, soV y u), (a9, soW y u)]) A) (vx_X (fun _ : gR => True) (fun (E : String) (u : gR) t => (f_X5_bestEvery r rc p0 p1 = (xc E, 0, u) ∧ xc E ≠ 0) ∧ (va_P D vwCl [(a0, .inr (4, [.ref a1, .ref a2, .ref a3, .ref a4, .ref a5])), (a2, soF a6 a7 r), (a6, soV y r), (a7, soW y r), (a3, soF a8 a9 u), (a8, soV y u), (a9, soW y u)] t.heap ∧ va_D (A) [(a0, .inr (4, [.ref a1, .ref a2, .ref a3, .ref a4, .ref a5])), (a2, soF a6 a7 r), (a6, soV y r), (a7, soW y r), (a3, soF a8 a9 u), (a8, soV y u), (a9, soW y u)])) A) ([.ref a0, .int p0, .int p1] : List Value).toArray s 2 12 A) (F0 m 25 ls []) := by
    intro n
    induction n with
    | zero =>
      intro x3 x4 x5 rc_ hμ
      exact absurd hμ (Nat.not_lt_zero _)
    | succ n ih =>
      intro x3 x4 x5 rc_ hμ hF H locs hP hD hS ls hl
      have hF := hF.trans (f_X5_bestEvery_L25_s r p0 p1 n x3 x4 x5 rc_)
      refine lv_iload hx hb dX5_bestEvery_25 (lv_at hl 5 rfl) ?_
      refine lv_iconst (v := 1) hx hb dX5_bestEvery_27 (by decide) ?_
      refine lv_icmp_lt (tgt := 61) hx hb dX5_bestEvery_28 (by decide) (fun c_1 => ?_) (fun c_1 => ?_)
      · have hF := hF.trans (if_pos c_1)
        refine lv_iload_n hx hb dX5_bestEvery_61 rfl (lv_at hl 3 rfl) ?_
        refine W.widen (k := 2) (n := 12) (Nat.le_of_ble_eq_true rfl) (Nat.le_of_ble_eq_true rfl) ?_
        refine vx_ret ?_
        exact W.iret (v := x3) hx hb hr (fun t ht hW => ⟨⟨x3, rc_, rfl, hF, ⟨by rw [ht]; exact hP, hD⟩⟩, hS.F ht⟩) hS.2.2 dX5_bestEvery_62
      · have hF := hF.trans (if_neg c_1)
        refine lv_aload_n hx hb dX5_bestEvery_31 rfl (lv_at hl 0 rfl) ?_
        refine lv_iload_n hx hb dX5_bestEvery_32 rfl (lv_at hl 1 rfl) ?_
        refine lv_iload hx hb dX5_bestEvery_33 (lv_at hl 5 rfl) ?_
        refine lv_iload_n hx hb dX5_bestEvery_35 rfl (lv_at hl 2 rfl) ?_
        refine xw_calli (va_runV (As := [.int p0, .int x5, .int p1]) (rest := []) ⟨hx, hb, hml, hown, hts⟩ (c_X5_wearIfEvery l D y a0 a1 a2 a3 a4 a5 a6 a7 a8 a9 H.size r rc_ p0 x5 p1 ho) (cwV 3 hts gX5_bestEvery_X5_wearIfEvery rfl rfl rfl hd_X5_wearIfEvery ⟨Nat.le_of_ble_eq_true rfl, Nat.le_of_ble_eq_true rfl⟩) (gV (q := (RX5, TX5, 5)) hE hP hD 0 rfl rfl) rfl rfl hl.1 rfl (lv_room (Nat.le_of_ble_eq_true rfl)) dX5_bestEvery_36 ⟨Nat.le_of_ble_eq_true rfl, Nat.le_of_ble_eq_true rfl⟩) hP hD hS hA [0, 1, 2, 3, 4, 5, 6] rfl (by decide) (fun _ => rfl) (fun v4 u3 H locs h2 hP hD hS => ?_)
        obtain ⟨q5, eq5⟩ : ∃ z : Int32 × gR, f_X5_wearIfEvery r rc_ p0 x5 p1 = z := ⟨_, rfl⟩
        obtain ⟨rfl, rfl⟩ : q5.1 = v4 ∧ q5.2 = u3 := ⟨by rw [← eq5, h2], by rw [← eq5, h2]⟩
        have hF := hF.trans (gLet_e eq5)
        have hP : va_P D vwCl [(a0, .inr (4, [.ref a1, .ref a2, .ref a3, .ref a4, .ref a5])), (a2, soF a6 a7 r), (a6, soV y r), (a7, soW y r), (a3, soF a8 a9 q5.2), (a8, soV y q5.2), (a9, soW y q5.2)] H := hP
        have hD : va_D A [(a0, .inr (4, [.ref a1, .ref a2, .ref a3, .ref a4, .ref a5])), (a2, soF a6 a7 r), (a6, soV y r), (a7, soW y r), (a3, soF a8 a9 q5.2), (a8, soV y q5.2), (a9, soW y q5.2)] := hD
        refine lv_istore (lv' := [(6, .int q5.1), (0, .ref a0), (1, .int p0), (2, .int p1), (3, .int x3), (4, .int x4), (5, .int x5)]) hx hb dX5_bestEvery_39 hl (by decide) rfl (fun ls hl => ?_)
        refine lv_iload hx hb dX5_bestEvery_41 (lv_at hl 0 rfl) ?_
        refine lv_iload hx hb dX5_bestEvery_43 (lv_at hl 5 rfl) ?_
        refine lv_icmp_ge (tgt := 55) hx hb dX5_bestEvery_45 (by decide) (fun c_6 => ?_) (fun c_6 => ?_)
        · have hF := hF.trans (if_pos c_6)
          refine lv_iinc (v := (x5 + (-1))) (lv' := [(5, .int (x5 + (-1))), (6, .int q5.1), (0, .ref a0), (1, .int p0), (2, .int p1), (3, .int x3), (4, .int x4)]) hx hb dX5_bestEvery_55 hl (k := 6) rfl rfl (by decide) rfl (fun ls hl => ?_)
          refine lv_goto (tgt := 25) hx hb dX5_bestEvery_58 (by decide) ?_
          exact ih x3 x4 (x5 + (-1)) q5.2 (dn_dec (dn_1 (by assumption)) hμ) hF _ _ hP hD hS ls (lv_sub hl [2, 3, 4, 5, 6, 0] rfl)
        · have hF := hF.trans (if_neg c_6)
          refine lv_iload hx hb dX5_bestEvery_48 (lv_at hl 0 rfl) ?_
          refine lv_istore (lv' := [(4, .int q5.1), (6, .int q5.1), (0, .ref a0), (1, .int p0), (2, .int p1), (3, .int x3), (5, .int x5)]) hx hb dX5_bestEvery_50 hl (by decide) rfl (fun ls hl => ?_)
          refine lv_iload hx hb dX5_bestEvery_52 (lv_at hl 6 rfl) ?_
          refine lv_istore_n (lv' := [(3, .int x5), (4, .int q5.1), (6, .int q5.1), (0, .ref a0), (1, .int p0), (2, .int p1), (5, .int x5)]) hx hb dX5_bestEvery_54 rfl hl (by decide) rfl (fun ls hl => ?_)
          refine lv_iinc (v := (x5 + (-1))) (lv' := [(5, .int (x5 + (-1))), (3, .int x5), (4, .int q5.1), (6, .int q5.1), (0, .ref a0), (1, .int p0), (2, .int p1)]) hx hb dX5_bestEvery_55 hl (k := 6) rfl rfl (by decide) rfl (fun ls hl => ?_)
          refine lv_goto (tgt := 25) hx hb dX5_bestEvery_58 (by decide) ?_
          exact ih x5 q5.1 (x5 + (-1)) q5.2 (dn_dec (dn_1 (by assumption)) hμ) hF _ _ hP hD hS ls (lv_sub hl [4, 5, 6, 1, 2, 0] rfl)
  have hF := f_X5_bestEvery_s r rc p0 p1
  refine lv_aload_n hx hb dX5_bestEvery_0 rfl (lv_at hl 0 rfl) ?_
  refine lv_iload_n hx hb dX5_bestEvery_1 rfl (lv_at hl 1 rfl) ?_
  refine xq_call (vx_runV (As := [.int p0]) (rest := []) ⟨hx, hb, hml, hown, hts⟩ (c_X5_requireLine l hst D y a0 a1 a2 a3 a4 a5 a6 a7 s.heap.size r p0) (cwV 1 hts gX5_bestEvery_X5_requireLine rfl rfl rfl hd_X5_requireLine ⟨Nat.le_of_ble_eq_true rfl, Nat.le_of_ble_eq_true rfl⟩) (xV (q := (RX5, TX5, 5)) hE hXE hXZ hS hA (hP.sub [0, 1, 2, 3] rfl) (hD.sub [0, 1, 2, 3] (by decide) rfl) 0 rfl rfl) rfl rfl hl.1 rfl (lv_room (Nat.le_of_ble_eq_true rfl)) dX5_bestEvery_2 ⟨Nat.le_of_ble_eq_true rfl, Nat.le_of_ble_eq_true rfl⟩) hP hD hS hA [0, 1, 2, 3] rfl (by decide) (fun E9 ce10 q11 H locs h8 h8z hP hD hS h8a h8b h8c => ?_) (fun H locs h8 hP hD hS => ?_)
  · have hP : va_P D vwCl [(a0, .inr (4, [.ref a1, .ref a2, .ref a3, .ref a4, .ref a5])), (a2, soF a6 a7 r), (a6, soV y r), (a7, soW y r), (a3, soF a8 a9 rc), (a8, soV y rc), (a9, soW y rc)] H := hP
    have hD : va_D A [(a0, .inr (4, [.ref a1, .ref a2, .ref a3, .ref a4, .ref a5])), (a2, soF a6 a7 r), (a6, soV y r), (a7, soW y r), (a3, soF a8 a9 rc), (a8, soV y rc), (a9, soW y rc)] := hD
    have hF := hF.trans ((gLet_e h8).trans (if_neg h8z))
    refine vx_out (fun x hx => (htab x hx).elim) hlocks h8a h8b h8c (fun t ht hvm => ⟨rc, trivial, ⟨⟨hF, h8z⟩, ⟨by rw [ht]; exact hP, hD⟩⟩, hS.F ht⟩) hS.2.2 (Nat.le_of_ble_eq_true rfl) (Nat.le_of_ble_eq_true rfl)
  have hP : va_P D vwCl [(a0, .inr (4, [.ref a1, .ref a2, .ref a3, .ref a4, .ref a5])), (a2, soF a6 a7 r), (a6, soV y r), (a7, soW y r), (a3, soF a8 a9 rc), (a8, soV y rc), (a9, soW y rc)] H := hP
  have hD : va_D A [(a0, .inr (4, [.ref a1, .ref a2, .ref a3, .ref a4, .ref a5])), (a2, soF a6 a7 r), (a6, soV y r), (a7, soW y r), (a3, soF a8 a9 rc), (a8, soV y rc), (a9, soW y rc)] := hD
  have hF := hF.trans ((gLet_e h8).trans (if_pos rfl))
  refine lv_iload_n hx hb dX5_bestEvery_5 rfl (lv_at hl 2 rfl) ?_
  refine xq_call (vx_runS (As := [.int p1]) (rest := []) ⟨hx, hb, hml, hown, hts⟩ (c_X5_requireHammered l hst D y H.size p1) (va_cwS 1 hts gX5_bestEvery_X5_requireHammered rfl rfl rfl hd_X5_requireHammered ⟨Nat.le_of_ble_eq_true rfl, Nat.le_of_ble_eq_true rfl⟩) (xS hE hXE hXZ hS hA (hP.sub [] rfl) (hD.sub [] (by decide) rfl)) rfl rfl hl.1 rfl (lv_room (Nat.le_of_ble_eq_true rfl)) dX5_bestEvery_6 ⟨Nat.le_of_ble_eq_true rfl, Nat.le_of_ble_eq_true rfl⟩) hP hD hS hA [] rfl (by decide) (fun E14 ce15 q16 H locs h13 h13z hP hD hS h13a h13b h13c => ?_) (fun H locs h13 hP hD hS => ?_)
  · have hP : va_P D vwCl [(a0, .inr (4, [.ref a1, .ref a2, .ref a3, .ref a4, .ref a5])), (a2, soF a6 a7 r), (a6, soV y r), (a7, soW y r), (a3, soF a8 a9 rc), (a8, soV y rc), (a9, soW y rc)] H := hP
    have hD : va_D A [(a0, .inr (4, [.ref a1, .ref a2, .ref a3, .ref a4, .ref a5])), (a2, soF a6 a7 r), (a6, soV y r), (a7, soW y r), (a3, soF a8 a9 rc), (a8, soV y rc), (a9, soW y rc)] := hD
    have hF := hF.trans ((gLet_e h13).trans (if_neg h13z))
    refine vx_out (fun x hx => (htab x hx).elim) hlocks h13a h13b h13c (fun t ht hvm => ⟨rc, trivial, ⟨⟨hF, h13z⟩, ⟨by rw [ht]; exact hP, hD⟩⟩, hS.F ht⟩) hS.2.2 (Nat.le_of_ble_eq_true rfl) (Nat.le_of_ble_eq_true rfl)
  have hP : va_P D vwCl [(a0, .inr (4, [.ref a1, .ref a2, .ref a3, .ref a4, .ref a5])), (a2, soF a6 a7 r), (a6, soV y r), (a7, soW y r), (a3, soF a8 a9 rc), (a8, soV y rc), (a9, soW y rc)] H := hP
  have hD : va_D A [(a0, .inr (4, [.ref a1, .ref a2, .ref a3, .ref a4, .ref a5])), (a2, soF a6 a7 r), (a6, soV y r), (a7, soW y r), (a3, soF a8 a9 rc), (a8, soV y rc), (a9, soW y rc)] := hD
  have hF := hF.trans ((gLet_e h13).trans (if_pos rfl))
  refine lv_bipush (v := 50) hx hb dX5_bestEvery_9 (by decide) ?_
  refine lv_istore_n (lv' := [(3, .int 50), (0, .ref a0), (1, .int p0), (2, .int p1)]) hx hb dX5_bestEvery_11 rfl hl (by decide) rfl (fun ls hl => ?_)
  refine lv_aload_n hx hb dX5_bestEvery_12 rfl (lv_at hl 1 rfl) ?_
  refine lv_iload_n hx hb dX5_bestEvery_13 rfl (lv_at hl 2 rfl) ?_
  refine lv_iload_n hx hb dX5_bestEvery_14 rfl (lv_at hl 0 rfl) ?_
  refine lv_iload_n hx hb dX5_bestEvery_15 rfl (lv_at hl 3 rfl) ?_
  refine xw_calli (va_runV (As := [.int p0, .int 50, .int p1]) (rest := []) ⟨hx, hb, hml, hown, hts⟩ (c_X5_wearIfEvery l D y a0 a1 a2 a3 a4 a5 a6 a7 a8 a9 H.size r rc p0 50 p1 ho) (cwV 3 hts gX5_bestEvery_X5_wearIfEvery rfl rfl rfl hd_X5_wearIfEvery ⟨Nat.le_of_ble_eq_true rfl, Nat.le_of_ble_eq_true rfl⟩) (gV (q := (RX5, TX5, 5)) hE hP hD 0 rfl rfl) rfl rfl hl.1 rfl (lv_room (Nat.le_of_ble_eq_true rfl)) dX5_bestEvery_16 ⟨Nat.le_of_ble_eq_true rfl, Nat.le_of_ble_eq_true rfl⟩) hP hD hS hA [0, 1, 2, 3, 4, 5, 6] rfl (by decide) (fun _ => rfl) (fun v19 u18 H locs h17 hP hD hS => ?_)
  obtain ⟨q20, eq20⟩ : ∃ z : Int32 × gR, f_X5_wearIfEvery r rc p0 50 p1 = z := ⟨_, rfl⟩
  obtain ⟨rfl, rfl⟩ : q20.1 = v19 ∧ q20.2 = u18 := ⟨by rw [← eq20, h17], by rw [← eq20, h17]⟩
  have hF := hF.trans (gLet_e eq20)
  have hP : va_P D vwCl [(a0, .inr (4, [.ref a1, .ref a2, .ref a3, .ref a4, .ref a5])), (a2, soF a6 a7 r), (a6, soV y r), (a7, soW y r), (a3, soF a8 a9 q20.2), (a8, soV y q20.2), (a9, soW y q20.2)] H := hP
  have hD : va_D A [(a0, .inr (4, [.ref a1, .ref a2, .ref a3, .ref a4, .ref a5])), (a2, soF a6 a7 r), (a6, soV y r), (a7, soW y r), (a3, soF a8 a9 q20.2), (a8, soV y q20.2), (a9, soW y q20.2)] := hD
  refine lv_istore (lv' := [(4, .int q20.1), (3, .int 50), (0, .ref a0), (1, .int p0), (2, .int p1)]) hx hb dX5_bestEvery_19 hl (by decide) rfl (fun ls hl => ?_)
  refine lv_bipush (v := 49) hx hb dX5_bestEvery_21 (by decide) ?_
  refine lv_istore (lv' := [(5, .int 49), (4, .int q20.1), (3, .int 50), (0, .ref a0), (1, .int p0), (2, .int p1)]) hx hb dX5_bestEvery_23 hl (by decide) rfl (fun ls hl => ?_)
  exact loop_25 _ 50 q20.1 49 q20.2 (Nat.lt_succ_self _) hF _ _ hP hD hS ls (lv_sub hl [3, 4, 5, 2, 1, 0] rfl)

def f_X5_withoutLastCommands_L5 (p1 : Int32) : Nat → Int64 → Int32 → Int64
  | 0, _, _ => 0
  | n + 1, x3, x5 =>
    if p1 ≤ x5 then
    x3
  else
    f_X5_withoutLastCommands_L5 p1 n (x3 / 1000000) (x5 + 1)
theorem f_X5_withoutLastCommands_L5_s (p1 : Int32) (n : Nat) (x3 : Int64) (x5 : Int32) : f_X5_withoutLastCommands_L5 p1 (n + 1) x3 x5 =
    (if p1 ≤ x5 then
    x3
  else
    f_X5_withoutLastCommands_L5 p1 n (x3 / 1000000) (x5 + 1)) := rfl
def f_X5_withoutLastCommands (p0 : Int64) (p1 : Int32) : Int64 :=
    f_X5_withoutLastCommands_L5 p1 ((p1.toInt - (0 : Int32).toInt).toNat + 1) p0 0
theorem f_X5_withoutLastCommands_s (p0 : Int64) (p1 : Int32) : f_X5_withoutLastCommands p0 p1 =
    (f_X5_withoutLastCommands_L5 p1 ((p1.toInt - (0 : Int32).toInt).toNat + 1) p0 0) := rfl
theorem hd_X5_withoutLastCommands : yX5_withoutLastCommands.cls ≠ "java/lang/invoke/MethodHandle" ∧ yX5_withoutLastCommands.cls ≠ "java/lang/invoke/VarHandle" ∧ (parseMethodDescriptor yX5_withoutLastCommands.desc).map (fun d => d.parameters.length) = some 2 := by decide +kernel
set_option maxHeartbeats 4000000 in
set_option maxRecDepth 100000 in
theorem c_X5_withoutLastCommands (l : Launch) (D : va_G) (y : Nat → ClassId) (zh : Nat) (p0 : Int64) (p1 : Int32) : Met l yX5_withoutLastCommands wsX5_withoutLastCommands ({ frames := 0, cells := 0, slots := 0, locals := 0 }) (gP D y [.long p0, .int p1] zh []) (vp_Sl (fun v : Int64 => f_X5_withoutLastCommands p0 p1 = v)) 0 0 (fun _ => False) := by
  refine Met.ofW (cc := cX5_withoutLastCommands) (maxL := 6) (ret := (some .long)) (by decide) rfl ?_
  intro p e s m args below meth c s₁ B hml hv
  obtain ⟨rfl, hsz, hP, hE, hD⟩ := hv
  have hx := B.exec
  have hb := B.bytes
  have hr := B.returns
  have hts := atoms_spec (ws := wsX5_withoutLastCommands) B.pre
  have hown : s.vm.findClass RX5 = some m.cls := findClass_of_methodNamed B.named
  have hlocks := B.notSynchronized
  have w_0 := hts (.constantLong RX5 207 (1000000)) (List.mem_cons_of_mem _ (List.mem_of_getElem? (i := 0) rfl))
  have hl := lv_entry ([.long p0, .int p1]) (n := 6) (Nat.le_of_ble_eq_true rfl)
  rw [lg_entry_eq]
  generalize (lg_sl ([.long p0, .int p1]) ++ List.replicate (6 - (lg_sl ([.long p0, .int p1])).length) Slot.unset).toArray = ls at hl ⊢
  have hl : lv_has ls 6 [(0, .long p0), (2, .int p1)] := hl
  have loop_5 : ∀ (n : Nat) (x3 : Int64) (x5 : Int32), (p1.toInt - x5.toInt).toNat < n → f_X5_withoutLastCommands p0 p1 = f_X5_withoutLastCommands_L5 p1 n x3 x5 → ∀ (ls : Array Slot), lv_has ls 6 [(0, .long p0), (2, .int p1), (3, .long x3), (5, .int x5)] → W p l e (headSpec wsX5_withoutLastCommands ({ frames := 0, cells := 0, slots := 0, locals := 0 })).room s m ([.long p0, .int p1] : List Value).toArray below meth c s.heap [] 0 0 (MQ below (vp_Sl (fun v : Int64 => f_X5_withoutLastCommands p0 p1 = v)) ([.long p0, .int p1] : List Value).toArray s 0 0 (fun _ => False)) (F0 m 5 ls []) := by
    intro n
    induction n with
    | zero =>
      intro x3 x5 hμ
      exact absurd hμ (Nat.not_lt_zero _)
    | succ n ih =>
      intro x3 x5 hμ hF ls hl
      have hF := hF.trans (f_X5_withoutLastCommands_L5_s p1 n x3 x5)
      refine lv_iload hx hb dX5_withoutLastCommands_5 (lv_at hl 3 rfl) ?_
      refine lv_iload_n hx hb dX5_withoutLastCommands_7 rfl (lv_at hl 1 rfl) ?_
      refine lv_icmp_ge (tgt := 23) hx hb dX5_withoutLastCommands_8 (by decide) (fun c_1 => ?_) (fun c_1 => ?_)
      · have hF := hF.trans (if_pos c_1)
        refine lv_lload_n hx hb dX5_withoutLastCommands_23 rfl (lv_at hl 2 rfl) ?_
        exact W.lret (v := x3) hx hb hr (fun t ht hW => ⟨x3, rfl, hF, ht⟩) (fun _ h => nomatch h) dX5_withoutLastCommands_24
      · have hF := hF.trans (if_neg c_1)
        refine lv_lload_n hx hb dX5_withoutLastCommands_11 rfl (lv_at hl 2 rfl) ?_
        refine lv_ldc2 (v := 1000000) hx hb hown w_0 dX5_withoutLastCommands_12 ?_
        refine lv_ldiv hx hb dX5_withoutLastCommands_15 (by decide) ?_
        refine lv_lstore_n (lv' := [(3, .long (x3 / 1000000)), (0, .long p0), (2, .int p1), (5, .int x5)]) hx hb dX5_withoutLastCommands_16 rfl hl (by decide) rfl (fun ls hl => ?_)
        refine lv_iinc (v := (x5 + 1)) (lv' := [(5, .int (x5 + 1)), (3, .long (x3 / 1000000)), (0, .long p0), (2, .int p1)]) hx hb dX5_withoutLastCommands_17 hl (k := 3) rfl rfl (by decide) rfl (fun ls hl => ?_)
        refine lv_goto (tgt := 5) hx hb dX5_withoutLastCommands_20 (by decide) ?_
        exact ih (x3 / 1000000) (x5 + 1) (lp_up (by assumption) hμ) hF ls (lv_sub hl [2, 3, 1, 0] rfl)
  have hF := f_X5_withoutLastCommands_s p0 p1
  refine lv_lload_n hx hb dX5_withoutLastCommands_0 rfl (lv_at hl 0 rfl) ?_
  refine lv_lstore_n (lv' := [(3, .long p0), (0, .long p0), (2, .int p1)]) hx hb dX5_withoutLastCommands_1 rfl hl (by decide) rfl (fun ls hl => ?_)
  refine lv_iconst (v := 0) hx hb dX5_withoutLastCommands_2 (by decide) ?_
  refine lv_istore (lv' := [(5, .int 0), (3, .long p0), (0, .long p0), (2, .int p1)]) hx hb dX5_withoutLastCommands_3 hl (by decide) rfl (fun ls hl => ?_)
  exact loop_5 _ p0 0 (Nat.lt_succ_self _) hF ls (lv_sub hl [2, 3, 1, 0] rfl)

def f_X5_runScript_L60 (p0 : Int32) (p1 : Int64) : Nat → Int32 → gR → Nat × Int32 × gR
  | 0, _, rc_ => (0, 0, rc_)
  | n + 1, x4, rc_ =>
    if p0 ≤ x4 then
    (0, (-1), rc_)
  else
    gLet (f_X5_withoutLastCommands p1 ((p0 - 1) - x4)) (fun (v3 : Int64) =>
      gLet (v3 - v3 / 1000000 * 1000000) (fun (v4 : Int64) =>
        gLet (v4.toInt32) (fun (v5 : Int32) =>
          gLet (f_X1_succeeds rc_ v5) (fun (q9 : Int32 × gR) =>
            if q9.1 = 0 then
              (0, x4, q9.2)
            else
              f_X5_runScript_L60 p0 p1 n (x4 + 1) q9.2))))
theorem f_X5_runScript_L60_s (p0 : Int32) (p1 : Int64) (n : Nat) (x4 : Int32) (rc_ : gR) : f_X5_runScript_L60 p0 p1 (n + 1) x4 rc_ =
    (if p0 ≤ x4 then
    (0, (-1), rc_)
  else
    gLet (f_X5_withoutLastCommands p1 ((p0 - 1) - x4)) (fun (v3 : Int64) =>
      gLet (v3 - v3 / 1000000 * 1000000) (fun (v4 : Int64) =>
        gLet (v4.toInt32) (fun (v5 : Int32) =>
          gLet (f_X1_succeeds rc_ v5) (fun (q9 : Int32 × gR) =>
            if q9.1 = 0 then
              (0, x4, q9.2)
            else
              f_X5_runScript_L60 p0 p1 n (x4 + 1) q9.2))))) := rfl
def f_X5_runScript (r : gR) (rc : gR) (p0 : Int32) (p1 : Int64) : Nat × Int32 × gR :=
    if p0 < 1 then
    (1, 0, rc)
  else
    if p0 ≤ 3 then
      if (lg_cmp p1 0) < 0 then
        (1, 0, rc)
      else
        gLet (f_X5_withoutLastCommands p1 p0) (fun (v17 : Int64) =>
          if (lg_cmp v17 0) = 0 then
            f_X5_runScript_L60 p0 p1 ((p0.toInt - (0 : Int32).toInt).toNat + 1) 0 r
          else
            (1, 0, rc))
    else
      (1, 0, rc)
theorem f_X5_runScript_s (r : gR) (rc : gR) (p0 : Int32) (p1 : Int64) : f_X5_runScript r rc p0 p1 =
    (if p0 < 1 then
    (1, 0, rc)
  else
    if p0 ≤ 3 then
      if (lg_cmp p1 0) < 0 then
        (1, 0, rc)
      else
        gLet (f_X5_withoutLastCommands p1 p0) (fun (v17 : Int64) =>
          if (lg_cmp v17 0) = 0 then
            f_X5_runScript_L60 p0 p1 ((p0.toInt - (0 : Int32).toInt).toNat + 1) 0 r
          else
            (1, 0, rc))
    else
      (1, 0, rc)) := rfl
theorem hd_X5_runScript : yX5_runScript.cls = RX5 ∧ yX5_runScript.cls ≠ "java/lang/invoke/MethodHandle" ∧ yX5_runScript.cls ≠ "java/lang/invoke/VarHandle" ∧ (parseMethodDescriptor yX5_runScript.desc).map (fun d => d.parameters.length) = some 2 := by decide +kernel
set_option maxHeartbeats 4000000 in
set_option maxRecDepth 100000 in
theorem c_X5_runScript (l : Launch) (hst : l.stackTraces = false) (D : va_G) (y : Nat → ClassId) (a0 a1 a2 a3 a4 a5 a6 a7 a8 a9 : Nat) (zh : Nat) (r : gR) (rc : gR) (p0 : Int32) (p1 : Int64) (ho : okC r) : vx_Met l yX5_runScript wsX5_runScript ({ frames := 6, cells := 2, slots := 12, locals := 136 }) (xP D y [.ref a0, .int p0, .long p1] zh [(a0, .inr (4, [.ref a1, .ref a2, .ref a3, .ref a4, .ref a5])), (a2, soF a6 a7 r), (a6, soV y r), (a7, soW y r), (a3, soF a8 a9 rc), (a8, soV y rc), (a9, soW y rc)]) (va_Qi (fun (v : Int32) (u : gR) => f_X5_runScript r rc p0 p1 = (0, v, u)) (fun (u : gR) t => va_P D vwCl [(a0, .inr (4, [.ref a1, .ref a2, .ref a3, .ref a4, .ref a5])), (a2, soF a6 a7 r), (a6, soV y r), (a7, soW y r), (a3, soF a8 a9 u), (a8, soV y u), (a9, soW y u)] t.heap ∧ va_D (va_A [(a0, .inr (4, [.ref a1, .ref a2, .ref a3, .ref a4, .ref a5])), (a2, soF a6 a7 r), (a6, soV y r), (a7, soW y r), (a3, soF a8 a9 rc), (a8, soV y rc), (a9, soW y rc)] zh) [(a0, .inr (4, [.ref a1, .ref a2, .ref a3, .ref a4, .ref a5])), (a2, soF a6 a7 r), (a6, soV y r), (a7, soW y r), (a3, soF a8 a9 u), (a8, soV y u), (a9, soW y u)]) (va_A [(a0, .inr (4, [.ref a1, .ref a2, .ref a3, .ref a4, .ref a5])), (a2, soF a6 a7 r), (a6, soV y r), (a7, soW y r), (a3, soF a8 a9 rc), (a8, soV y rc), (a9, soW y rc)] zh)) (vx_X (fun _ : gR => True) (fun (E : String) (u : gR) t => (f_X5_runScript r rc p0 p1 = (xc E, 0, u) ∧ xc E ≠ 0) ∧ (va_P D vwCl [(a0, .inr (4, [.ref a1, .ref a2, .ref a3, .ref a4, .ref a5])), (a2, soF a6 a7 r), (a6, soV y r), (a7, soW y r), (a3, soF a8 a9 u), (a8, soV y u), (a9, soW y u)] t.heap ∧ va_D (va_A [(a0, .inr (4, [.ref a1, .ref a2, .ref a3, .ref a4, .ref a5])), (a2, soF a6 a7 r), (a6, soV y r), (a7, soW y r), (a3, soF a8 a9 rc), (a8, soV y rc), (a9, soW y rc)] zh) [(a0, .inr (4, [.ref a1, .ref a2, .ref a3, .ref a4, .ref a5])), (a2, soF a6 a7 r), (a6, soV y r), (a7, soW y r), (a3, soF a8 a9 u), (a8, soV y u), (a9, soW y u)])) (va_A [(a0, .inr (4, [.ref a1, .ref a2, .ref a3, .ref a4, .ref a5])), (a2, soF a6 a7 r), (a6, soV y r), (a7, soW y r), (a3, soF a8 a9 rc), (a8, soV y rc), (a9, soW y rc)] zh)) 2 12 (va_A [(a0, .inr (4, [.ref a1, .ref a2, .ref a3, .ref a4, .ref a5])), (a2, soF a6 a7 r), (a6, soV y r), (a7, soW y r), (a3, soF a8 a9 rc), (a8, soV y rc), (a9, soW y rc)] zh) := by
  refine vx_ofW (cc := cX5_runScript) (maxL := 6) (ret := (some .int)) (by decide) rfl ?_
  intro p e s m args below meth c s₁ B hml htab hv
  obtain ⟨⟨rfl, hsz, hP, hE, hD⟩, hXE, hXZ⟩ := hv
  have hx := B.exec
  have hb := B.bytes
  have hr := B.returns
  have hts := atoms_spec (ws := wsX5_runScript) B.pre
  have hown : s.vm.findClass RX5 = some m.cls := findClass_of_methodNamed B.named
  have hlocks := B.notSynchronized
  have w_0 := hts (.constantLong RX5 207 (1000000)) (List.mem_cons_of_mem _ (List.mem_append_left _ (List.mem_append_left _ (List.mem_append_left _ (List.mem_append_left _ (List.mem_of_getElem? (i := 4) rfl))))))
  have w_1 := hts (.fieldLink RX5 23 "GapLines" "copy" "LGapLines$State;") (List.mem_cons_of_mem _ (List.mem_append_left _ (List.mem_append_left _ (List.mem_append_left _ (List.mem_append_left _ (List.mem_of_getElem? (i := 2) rfl))))))
  have hi5 : ∀ w ∈ u_ws RX5 TX5 5, w ∈ wsX5_runScript := fun w h => (List.mem_cons_of_mem _ (List.mem_append_left _ (List.mem_append_left _ (List.mem_append_right _ h))))
  have w_3 := hts (.classLink RX5 40 "java/lang/IllegalArgumentException") (List.mem_cons_of_mem _ (List.mem_append_left _ (List.mem_append_left _ (List.mem_append_left _ (List.mem_append_left _ (List.mem_of_getElem? (i := 0) rfl))))))
  have w_4 := hts (.initialized "java/lang/IllegalArgumentException") (List.mem_cons_of_mem _ (List.mem_append_left _ (List.mem_append_left _ (List.mem_append_left _ (List.mem_append_left _ (List.mem_of_getElem? (i := 1) rfl))))))
  have w_5 := hts (.fieldLink RX5 19 "GapLines" "state" "LGapLines$State;") (List.mem_cons_of_mem _ (List.mem_append_left _ (List.mem_append_left _ (List.mem_append_left _ (List.mem_append_left _ (List.mem_of_getElem? (i := 3) rfl))))))
  subst hsz
  have hD := hD.self (sz := s.heap.size)
  generalize hAe : va_A [(a0, .inr (4, [.ref a1, .ref a2, .ref a3, .ref a4, .ref a5])), (a2, soF a6 a7 r), (a6, soV y r), (a7, soW y r), (a3, soF a8 a9 rc), (a8, soV y rc), (a9, soW y rc)] s.heap.size = A at hD hXZ ⊢
  have hA : ∀ q : Nat, s.heap.size ≤ q → A q := fun q h => by rw [← hAe]; exact Or.inr h
  have hS : va_S A s.heap s.heap [] := va_S.rf
  have hl := lv_entry ([.ref a0, .int p0, .long p1]) (n := 6) (Nat.le_of_ble_eq_true rfl)
  rw [lg_entry_eq]
  generalize (lg_sl ([.ref a0, .int p0, .long p1]) ++ List.replicate (6 - (lg_sl ([.ref a0, .int p0, .long p1])).length) Slot.unset).toArray = ls at hl ⊢
  have hl : lv_has ls 6 [(0, .ref a0), (1, .int p0), (2, .long p1)] := hl
  have loop_60 : ∀ (n : Nat) (x4 : Int32) (rc_ : gR) (hc_ : okC rc_), (p0.toInt - x4.toInt).toNat < n → f_X5_runScript r rc p0 p1 = f_X5_runScript_L60 p0 p1 n x4 rc_ → ∀ (H : Heap) (locs : List Loc), va_P D vwCl [(a0, .inr (4, [.ref a1, .ref a2, .ref a3, .ref a4, .ref a5])), (a2, soF a6 a7 r), (a6, soV y r), (a7, soW y r), (a3, soF a8 a9 rc_), (a8, soV y rc_), (a9, soW y rc_)] H → va_D A [(a0, .inr (4, [.ref a1, .ref a2, .ref a3, .ref a4, .ref a5])), (a2, soF a6 a7 r), (a6, soV y r), (a7, soW y r), (a3, soF a8 a9 rc_), (a8, soV y rc_), (a9, soW y rc_)] → va_S A s.heap H locs → ∀ (ls : Array Slot), lv_has ls 6 [(0, .ref a0), (1, .int p0), (2, .long p1), (4, .int x4)] → W p l e (headSpec wsX5_runScript ({ frames := 6, cells := 2, slots := 12, locals := 136 })).room s m ([.ref a0, .int p0, .long p1] : List Value).toArray below meth c H locs 0 0 (vx_MQ below (va_Qi (fun (v : Int32) (u : gR) => f_X5_runScript r rc p0 p1 = (0, v, u)) (fun (u : gR) t => va_P D vwCl [(a0, .inr (4, [.ref a1, .ref a2, .ref a3, .ref a4, .ref a5])), (a2, soF a6 a7 r), (a6, soV y r), (a7, soW y r), (a3, soF a8 a9 u), (a8, soV y u), (a9, soW y u)] t.heap ∧ va_D (A) [(a0, .inr (4, [.ref a1, .ref a2, .ref a3, .ref a4, .ref a5])), (a2, soF a6 a7 r), (a6, soV y r), (a7, soW y r), (a3, soF a8 a9 u), (a8, soV y u), (a9, soW y u)]) A) (vx_X (fun _ : gR => True) (fun (E : String) (u : gR) t => (f_X5_runScript r rc p0 p1 = (xc E, 0, u) ∧ xc E ≠ 0) ∧ (va_P D vwCl [(a0, .inr (4, [.ref a1, .ref a2, .ref a3, .ref a4, .ref a5])), (a2, soF a6 a7 r), (a6, soV y r), (a7, soW y r), (a3, soF a8 a9 u), (a8, soV y u), (a9, soW y u)] t.heap ∧ va_D (A) [(a0, .inr (4, [.ref a1, .ref a2, .ref a3, .ref a4, .ref a5])), (a2, soF a6 a7 r), (a6, soV y r), (a7, soW y r), (a3, soF a8 a9 u), (a8, soV y u), (a9, soW y u)])) A) ([.ref a0, .int p0, .long p1] : List Value).toArray s 2 12 A) (F0 m 60 ls []) := by
    intro n
    induction n with
    | zero =>
      intro x4 rc_ hc_ hμ
      exact absurd hμ (Nat.not_lt_zero _)
    | succ n ih =>
      intro x4 rc_ hc_ hμ hF H locs hP hD hS ls hl
      have hF := hF.trans (f_X5_runScript_L60_s p0 p1 n x4 rc_)
      refine lv_iload hx hb dX5_runScript_60 (lv_at hl 3 rfl) ?_
      refine lv_iload_n hx hb dX5_runScript_62 rfl (lv_at hl 1 rfl) ?_
      refine lv_icmp_ge (tgt := 104) hx hb dX5_runScript_63 (by decide) (fun c_1 => ?_) (fun c_1 => ?_)
      · have hF := hF.trans (if_pos c_1)
        refine lv_iconst (v := (-1)) hx hb dX5_runScript_104 (by decide) ?_
        refine W.widen (k := 2) (n := 12) (Nat.le_of_ble_eq_true rfl) (Nat.le_of_ble_eq_true rfl) ?_
        refine vx_ret ?_
        exact W.iret (v := (-1)) hx hb hr (fun t ht hW => ⟨⟨(-1), rc_, rfl, hF, ⟨by rw [ht]; exact hP, hD⟩⟩, hS.F ht⟩) hS.2.2 dX5_runScript_105
      · have hF := hF.trans (if_neg c_1)
        refine lv_lload_n hx hb dX5_runScript_66 rfl (lv_at hl 2 rfl) ?_
        refine lv_iload_n hx hb dX5_runScript_67 rfl (lv_at hl 1 rfl) ?_
        refine lv_iconst (v := 1) hx hb dX5_runScript_68 (by decide) ?_
        refine lv_isub hx hb dX5_runScript_69 ?_
        refine lv_iload hx hb dX5_runScript_70 (lv_at hl 3 rfl) ?_
        refine lv_isub hx hb dX5_runScript_72 ?_
        refine xs_calll (va_runS (As := [.long p1, .int ((p0 - 1) - x4)]) (rest := []) ⟨hx, hb, hml, hown, hts⟩ (c_X5_withoutLastCommands l D y H.size p1 ((p0 - 1) - x4)) (va_cwS 2 hts gX5_runScript_X5_withoutLastCommands rfl rfl rfl hd_X5_withoutLastCommands ⟨Nat.le_of_ble_eq_true rfl, Nat.le_of_ble_eq_true rfl⟩) (gS hE (hP.sub [] rfl) (hD.sub [] (by decide) rfl)) rfl rfl hl.1 rfl (lv_room (Nat.le_of_ble_eq_true rfl)) dX5_runScript_73 ⟨Nat.le_of_ble_eq_true rfl, Nat.le_of_ble_eq_true rfl⟩) (fun v3 h2 => ?_)
        have hF := hF.trans (gLet_e h2)
        refine lv_ldc2 (v := 1000000) hx hb hown w_0 dX5_runScript_76 ?_
        refine lv_lrem hx hb dX5_runScript_79 (by decide) ?_
        obtain ⟨v4, ev4⟩ : ∃ z : Int64, v3 - v3 / 1000000 * 1000000 = z := ⟨_, rfl⟩
        rw [ev4]
        have hF := hF.trans (gLet_e ev4)
        refine lv_l2i (v := v4.toInt32) hx hb dX5_runScript_80 rfl ?_
        obtain ⟨v5, ev5⟩ : ∃ z : Int32, v4.toInt32 = z := ⟨_, rfl⟩
        rw [ev5]
        have hF := hF.trans (gLet_e ev5)
        refine lv_istore (lv' := [(5, .int v5), (0, .ref a0), (1, .int p0), (2, .long p1), (4, .int x4)]) hx hb dX5_runScript_81 hl (by decide) rfl (fun ls hl => ?_)
        refine lv_aload_n hx hb dX5_runScript_83 rfl (lv_at hl 1 rfl) ?_
        refine va_get (D := D) (ci := 4) (v := .ref a3) (C := RX5) (T := TX5) (N := 5) hx hb hts hi5 hown hE.1 hP 0 rfl rfl 2 (by decide) w_1 (fun _ h9 => h9) rfl dX5_runScript_84 ?_
        refine lv_iload hx hb dX5_runScript_87 (lv_at hl 0 rfl) ?_
        refine xw_calli (va_runS (As := [.ref a3, .int v5]) (rest := []) ⟨hx, hb, hml, hown, hts⟩ (c_X1_succeeds l D y a3 a8 a9 H.size rc_ v5 hc_) (va_cwS 2 hts gX5_runScript_X1_succeeds rfl rfl rfl hd_X1_succeeds ⟨Nat.le_of_ble_eq_true rfl, Nat.le_of_ble_eq_true rfl⟩) (gS hE (hP.sub [4, 5, 6] rfl) (hD.sub [4, 5, 6] (by decide) rfl)) rfl rfl hl.1 rfl (lv_room (Nat.le_of_ble_eq_true rfl)) dX5_runScript_89 ⟨Nat.le_of_ble_eq_true rfl, Nat.le_of_ble_eq_true rfl⟩) hP hD hS hA [4, 5, 6] rfl (by decide) (fun _ => rfl) (fun v8 u7 H locs h6 hP hD hS => ?_)
        obtain ⟨q9, eq9⟩ : ∃ z : Int32 × gR, f_X1_succeeds rc_ v5 = z := ⟨_, rfl⟩
        obtain ⟨rfl, rfl⟩ : q9.1 = v8 ∧ q9.2 = u7 := ⟨by rw [← eq9, h6], by rw [← eq9, h6]⟩
        have hF := hF.trans (gLet_e eq9)
        have hP : va_P D vwCl [(a0, .inr (4, [.ref a1, .ref a2, .ref a3, .ref a4, .ref a5])), (a2, soF a6 a7 r), (a6, soV y r), (a7, soW y r), (a3, soF a8 a9 q9.2), (a8, soV y q9.2), (a9, soW y q9.2)] H := hP
        have hD : va_D A [(a0, .inr (4, [.ref a1, .ref a2, .ref a3, .ref a4, .ref a5])), (a2, soF a6 a7 r), (a6, soV y r), (a7, soW y r), (a3, soF a8 a9 q9.2), (a8, soV y q9.2), (a9, soW y q9.2)] := hD
        refine lv_if_ne (tgt := 98) hx hb dX5_runScript_92 (by decide) (fun c_10 => ?_) (fun c_10 => ?_)
        · have hF := hF.trans (if_neg c_10)
          refine lv_iinc (v := (x4 + 1)) (lv' := [(4, .int (x4 + 1)), (5, .int v5), (0, .ref a0), (1, .int p0), (2, .long p1)]) hx hb dX5_runScript_98 hl (k := 4) rfl rfl (by decide) rfl (fun ls hl => ?_)
          refine lv_goto (tgt := 60) hx hb dX5_runScript_101 (by decide) ?_
          exact ih (x4 + 1) q9.2 ((by rw [← eq9]; exact ok_X1_succeeds _ _ hc_)) (lp_up (by assumption) hμ) hF _ _ hP hD hS ls (lv_sub hl [2, 3, 4, 0] rfl)
        · have hF := hF.trans (if_pos c_10)
          refine lv_iload hx hb dX5_runScript_95 (lv_at hl 4 rfl) ?_
          refine W.widen (k := 2) (n := 12) (Nat.le_of_ble_eq_true rfl) (Nat.le_of_ble_eq_true rfl) ?_
          refine vx_ret ?_
          exact W.iret (v := x4) hx hb hr (fun t ht hW => ⟨⟨x4, q9.2, rfl, hF, ⟨by rw [ht]; exact hP, hD⟩⟩, hS.F ht⟩) hS.2.2 dX5_runScript_97
  have hF := f_X5_runScript_s r rc p0 p1
  refine lv_iload_n hx hb dX5_runScript_0 rfl (lv_at hl 1 rfl) ?_
  refine lv_iconst (v := 1) hx hb dX5_runScript_1 (by decide) ?_
  refine lv_icmp_lt (tgt := 10) hx hb dX5_runScript_2 (by decide) (fun c_11 => ?_) (fun c_11 => ?_)
  · have hF := hF.trans (if_pos c_11)
    obtain ⟨sa12, hsa12⟩ := hXE.2 _ (List.mem_of_getElem? (i := 13) rfl)
    exact vx_throwS (names := xN) hx hb hst hown (by decide +kernel) (by decide +kernel) w_3 w_4 hsa12 (vx_hat (fun w hw => hts w (List.mem_cons_of_mem _ (List.mem_append_right _ hw))) x_bad44 (xE_bad hXE hXE.1.1.1)) x_good44 hXZ.1 hXZ.2 hS (hml.trans hl.1.symm).symm dX5_runScript_10 dX5_runScript_13 dX5_runScript_14 dX5_runScript_16 dX5_runScript_19 (fun x hx => (htab x hx).elim) (Nat.le_of_ble_eq_true rfl) (Nat.le_of_ble_eq_true rfl) (Nat.le_of_ble_eq_true rfl) (Nat.le_of_ble_eq_true rfl) hlocks (fun t hvm hz hk => ⟨rc, trivial, ⟨⟨by rw [xc_IA]; exact hF, by rw [xc_IA]; decide⟩, ⟨x_grow hP hk, hD⟩⟩, x_F hS hz hk⟩) hS.2.2 (Nat.le_of_ble_eq_true rfl) (Nat.le_of_ble_eq_true rfl)
  · have hF := hF.trans (if_neg c_11)
    refine lv_iload_n hx hb dX5_runScript_5 rfl (lv_at hl 1 rfl) ?_
    refine lv_iconst (v := 3) hx hb dX5_runScript_6 (by decide) ?_
    refine lv_icmp_le (tgt := 20) hx hb dX5_runScript_7 (by decide) (fun c_13 => ?_) (fun c_13 => ?_)
    · have hF := hF.trans (if_pos c_13)
      refine lv_lload_n hx hb dX5_runScript_20 rfl (lv_at hl 2 rfl) ?_
      refine lv_lconst (v := 0) hx hb dX5_runScript_21 (by decide) ?_
      refine W.lcmp hx hb dX5_runScript_22 ?_
      refine lv_if_lt (tgt := 36) hx hb dX5_runScript_23 (by decide) (fun c_14 => ?_) (fun c_14 => ?_)
      · have hF := hF.trans (if_pos c_14)
        obtain ⟨sa15, hsa15⟩ := hXE.2 _ (List.mem_of_getElem? (i := 14) rfl)
        exact vx_throwS (names := xN) hx hb hst hown (by decide +kernel) (by decide +kernel) w_3 w_4 hsa15 (vx_hat (fun w hw => hts w (List.mem_cons_of_mem _ (List.mem_append_right _ hw))) x_bad44 (xE_bad hXE hXE.1.1.1)) x_good44 hXZ.1 hXZ.2 hS (hml.trans hl.1.symm).symm dX5_runScript_36 dX5_runScript_39 dX5_runScript_40 dX5_runScript_42 dX5_runScript_45 (fun x hx => (htab x hx).elim) (Nat.le_of_ble_eq_true rfl) (Nat.le_of_ble_eq_true rfl) (Nat.le_of_ble_eq_true rfl) (Nat.le_of_ble_eq_true rfl) hlocks (fun t hvm hz hk => ⟨rc, trivial, ⟨⟨by rw [xc_IA]; exact hF, by rw [xc_IA]; decide⟩, ⟨x_grow hP hk, hD⟩⟩, x_F hS hz hk⟩) hS.2.2 (Nat.le_of_ble_eq_true rfl) (Nat.le_of_ble_eq_true rfl)
      · have hF := hF.trans (if_neg c_14)
        refine lv_lload_n hx hb dX5_runScript_26 rfl (lv_at hl 2 rfl) ?_
        refine lv_iload_n hx hb dX5_runScript_27 rfl (lv_at hl 1 rfl) ?_
        refine xs_calll (va_runS (As := [.long p1, .int p0]) (rest := []) ⟨hx, hb, hml, hown, hts⟩ (c_X5_withoutLastCommands l D y s.heap.size p1 p0) (va_cwS 2 hts gX5_runScript_X5_withoutLastCommands rfl rfl rfl hd_X5_withoutLastCommands ⟨Nat.le_of_ble_eq_true rfl, Nat.le_of_ble_eq_true rfl⟩) (gS hE (hP.sub [] rfl) (hD.sub [] (by decide) rfl)) rfl rfl hl.1 rfl (lv_room (Nat.le_of_ble_eq_true rfl)) dX5_runScript_28 ⟨Nat.le_of_ble_eq_true rfl, Nat.le_of_ble_eq_true rfl⟩) (fun v17 h16 => ?_)
        have hF := hF.trans (gLet_e h16)
        refine lv_lconst (v := 0) hx hb dX5_runScript_31 (by decide) ?_
        refine W.lcmp hx hb dX5_runScript_32 ?_
        refine lv_if_eq (tgt := 46) hx hb dX5_runScript_33 (by decide) (fun c_18 => ?_) (fun c_18 => ?_)
        · have hF := hF.trans (if_pos c_18)
          refine lv_aload_n hx hb dX5_runScript_46 rfl (lv_at hl 0 rfl) ?_
          refine va_get (D := D) (ci := 4) (v := .ref a3) (C := RX5) (T := TX5) (N := 5) hx hb hts hi5 hown hE.1 hP 0 rfl rfl 2 (by decide) w_1 (fun _ h9 => h9) rfl dX5_runScript_47 ?_
          refine lv_aload_n hx hb dX5_runScript_50 rfl (lv_at hl 0 rfl) ?_
          refine va_get (D := D) (ci := 4) (v := .ref a2) (C := RX5) (T := TX5) (N := 5) hx hb hts hi5 hown hE.1 hP 0 rfl rfl 1 (by decide) w_5 (fun _ h9 => h9) rfl dX5_runScript_51 ?_
          refine xw_callv (va_runV (As := [.ref a2]) (rest := []) ⟨hx, hb, hml, hown, hts⟩ (c_X3_copyFrom l D y a3 a8 a9 a2 a6 a7 s.heap.size rc r ho) (cwV 1 hts gX5_runScript_X3_copyFrom rfl rfl rfl hd_X3_copyFrom ⟨Nat.le_of_ble_eq_true rfl, Nat.le_of_ble_eq_true rfl⟩) (gV (q := (RX3, TX3, 15)) hE (hP.sub [4, 5, 6, 1, 2, 3] rfl) (hD.sub [4, 5, 6, 1, 2, 3] (by decide) rfl) 0 rfl rfl) rfl rfl hl.1 rfl (lv_room (Nat.le_of_ble_eq_true rfl)) dX5_runScript_54 ⟨Nat.le_of_ble_eq_true rfl, Nat.le_of_ble_eq_true rfl⟩) hP hD hS hA [4, 5, 6, 1, 2, 3] rfl (by decide) (fun _ => rfl) (fun u20 H locs h19 hP hD hS => ?_)
          obtain rfl : r = u20 := h19
          have hP : va_P D vwCl [(a0, .inr (4, [.ref a1, .ref a2, .ref a3, .ref a4, .ref a5])), (a2, soF a6 a7 r), (a6, soV y r), (a7, soW y r), (a3, soF a8 a9 r), (a8, soV y r), (a9, soW y r)] H := hP
          have hD : va_D A [(a0, .inr (4, [.ref a1, .ref a2, .ref a3, .ref a4, .ref a5])), (a2, soF a6 a7 r), (a6, soV y r), (a7, soW y r), (a3, soF a8 a9 r), (a8, soV y r), (a9, soW y r)] := hD
          refine lv_iconst (v := 0) hx hb dX5_runScript_57 (by decide) ?_
          refine lv_istore (lv' := [(4, .int 0), (0, .ref a0), (1, .int p0), (2, .long p1)]) hx hb dX5_runScript_58 hl (by decide) rfl (fun ls hl => ?_)
          exact loop_60 _ 0 r (ho) (Nat.lt_succ_self _) hF _ _ hP hD hS ls (lv_sub hl [1, 2, 3, 0] rfl)
        · have hF := hF.trans (if_neg c_18)
          obtain ⟨sa21, hsa21⟩ := hXE.2 _ (List.mem_of_getElem? (i := 14) rfl)
          exact vx_throwS (names := xN) hx hb hst hown (by decide +kernel) (by decide +kernel) w_3 w_4 hsa21 (vx_hat (fun w hw => hts w (List.mem_cons_of_mem _ (List.mem_append_right _ hw))) x_bad44 (xE_bad hXE hXE.1.1.1)) x_good44 hXZ.1 hXZ.2 hS (hml.trans hl.1.symm).symm dX5_runScript_36 dX5_runScript_39 dX5_runScript_40 dX5_runScript_42 dX5_runScript_45 (fun x hx => (htab x hx).elim) (Nat.le_of_ble_eq_true rfl) (Nat.le_of_ble_eq_true rfl) (Nat.le_of_ble_eq_true rfl) (Nat.le_of_ble_eq_true rfl) hlocks (fun t hvm hz hk => ⟨rc, trivial, ⟨⟨by rw [xc_IA]; exact hF, by rw [xc_IA]; decide⟩, ⟨x_grow hP hk, hD⟩⟩, x_F hS hz hk⟩) hS.2.2 (Nat.le_of_ble_eq_true rfl) (Nat.le_of_ble_eq_true rfl)
    · have hF := hF.trans (if_neg c_13)
      obtain ⟨sa22, hsa22⟩ := hXE.2 _ (List.mem_of_getElem? (i := 13) rfl)
      exact vx_throwS (names := xN) hx hb hst hown (by decide +kernel) (by decide +kernel) w_3 w_4 hsa22 (vx_hat (fun w hw => hts w (List.mem_cons_of_mem _ (List.mem_append_right _ hw))) x_bad44 (xE_bad hXE hXE.1.1.1)) x_good44 hXZ.1 hXZ.2 hS (hml.trans hl.1.symm).symm dX5_runScript_10 dX5_runScript_13 dX5_runScript_14 dX5_runScript_16 dX5_runScript_19 (fun x hx => (htab x hx).elim) (Nat.le_of_ble_eq_true rfl) (Nat.le_of_ble_eq_true rfl) (Nat.le_of_ble_eq_true rfl) (Nat.le_of_ble_eq_true rfl) hlocks (fun t hvm hz hk => ⟨rc, trivial, ⟨⟨by rw [xc_IA]; exact hF, by rw [xc_IA]; decide⟩, ⟨x_grow hP hk, hD⟩⟩, x_F hS hz hk⟩) hS.2.2 (Nat.le_of_ble_eq_true rfl) (Nat.le_of_ble_eq_true rfl)
