/-! WHAT IS REMEMBERED, BACK -/

def f_X0_takeBack (r : gR) (qz qn : Int32) (hq : Nat → Option gR) : Int32 × gR × Int32 × Int32 :=
  if qz = 0 then (0, r, qz, qn) else match hq ((if qn ≤ 0 then 13 else qn - 1 : Int32).toNatClampNeg) with
    | none => (0, r, qz, qn)
    | some s => (1, s, qz - 1, if qn ≤ 0 then 13 else qn - 1)
theorem tb_zero {r : gR} {qz qn : Int32} {hq : Nat → Option gR} (h : qz = 0) : f_X0_takeBack r qz qn hq = (0, r, qz, qn) := by
  unfold f_X0_takeBack; rw [if_pos h]
theorem tb_none {r : gR} {qz qn l : Int32} {hq : Nat → Option gR} (h : ¬ qz = 0) (hl : (if qn ≤ 0 then 13 else qn - 1) = l) (hk : hq l.toNatClampNeg = none) : f_X0_takeBack r qz qn hq = (0, r, qz, qn) := by
  unfold f_X0_takeBack; rw [if_neg h, hl, hk]
theorem tb_some {r s : gR} {qz qn l : Int32} {hq : Nat → Option gR} (h : ¬ qz = 0) (hl : (if qn ≤ 0 then 13 else qn - 1) = l) (hk : hq l.toNatClampNeg = some s) : f_X0_takeBack r qz qn hq = (1, s, qz - 1, l) := by
  unfold f_X0_takeBack; rw [if_neg h, hl, hk]
theorem dec14 {qn : Int32} (hh : 0 ≤ qn.toInt ∧ qn.toInt < (14 : Nat)) (h : ¬ qn ≤ 0) : 0 ≤ (qn - 1).toInt ∧ (qn - 1).toInt < (14 : Nat) := by
  have h1 := i_lt.mp (Int32.not_le.mp h)
  have e : (0 : Int32).toInt = 0 := by decide
  have e1 : (1 : Int32).toInt = 1 := by decide
  have e2 : (qn - 1).toInt = qn.toInt - 1 := by
    rw [Int32.toInt_sub, e1, Int.bmod_eq_of_le (by omega) (by omega)]
  omega
theorem hd_X0_takeBack : yX0_takeBack.cls = RX0 ∧ yX0_takeBack.cls ≠ "java/lang/invoke/MethodHandle" ∧ yX0_takeBack.cls ≠ "java/lang/invoke/VarHandle" ∧ (parseMethodDescriptor yX0_takeBack.desc).map (fun d => d.parameters.length) = some 1 := by decide +kernel
set_option maxHeartbeats 4000000 in
set_option maxRecDepth 100000 in
theorem c_X0_takeBack (l : Launch) (D : va_G) (y : Nat → ClassId) (a0 a1 a2 a3 a4 a5 a6 a7 a8 a9 a10 a11 a12 a13 : Nat) (ga gb : Nat → Nat × Nat × Nat) (zh : Nat) (tn : Int32) (tf : Nat → Int32) (r : gR) (rc : gR) (qz : Int32) (qn : Int32) (hq : Nat → Option gR) (lq : Nat → Option gR) (lfl : Nat → Int32) (hh : 0 ≤ qn.toInt ∧ qn.toInt < (14 : Nat)) (hoq : okQ hq) : Met l yX0_takeBack wsX0_takeBack ({ frames := 2, cells := 0, slots := 0, locals := 39 }) (gP D y [.ref a4, .ref a2] zh ((a0, .inr (4, [.ref a1, .ref a2, .ref a3, .ref a4, .ref a5])) :: (a1, .inr (3, [.ref a6, .int tn])) :: (a6, .inl (y 1, 120, .inl tf)) :: (a2, soF a7 a8 r) :: (a7, soV y r) :: (a8, soW y r) :: (a3, soF a9 a10 rc) :: (a9, soV y rc) :: (a10, soW y rc) :: (a4, .inr (0, [.ref a11, .int qz, .int qn])) :: (a11, .inl (y 3, 14, .inr (.inr (.inr (.inr (gRf ga hq)))))) :: (a5, .inr (1, [.ref a12, .ref a13])) :: (a12, .inl (y 3, 2, .inr (.inr (.inr (.inr (gRf gb lq)))))) :: (a13, .inl (y 2, 2, .inl lfl)) :: gTail y ga gb hq lq)) (va_Qi (fun (v : Int32) (u : gR × Int32 × Int32) => f_X0_takeBack r qz qn hq = (v, u)) (fun (u : gR × Int32 × Int32) t => ∃ (g1 g2 : Nat → Nat × Nat × Nat), va_P D vwCl ((a0, .inr (4, [.ref a1, .ref a2, .ref a3, .ref a4, .ref a5])) :: (a1, .inr (3, [.ref a6, .int tn])) :: (a6, .inl (y 1, 120, .inl tf)) :: (a2, soF a7 a8 u.1) :: (a7, soV y u.1) :: (a8, soW y u.1) :: (a3, soF a9 a10 rc) :: (a9, soV y rc) :: (a10, soW y rc) :: (a4, .inr (0, [.ref a11, .int u.2.1, .int u.2.2])) :: (a11, .inl (y 3, 14, .inr (.inr (.inr (.inr (gRf g1 hq)))))) :: (a5, .inr (1, [.ref a12, .ref a13])) :: (a12, .inl (y 3, 2, .inr (.inr (.inr (.inr (gRf g2 lq)))))) :: (a13, .inl (y 2, 2, .inl lfl)) :: gTail y g1 g2 hq lq) t.heap ∧ va_D (va_A ((a0, .inr (4, [.ref a1, .ref a2, .ref a3, .ref a4, .ref a5])) :: (a1, .inr (3, [.ref a6, .int tn])) :: (a6, .inl (y 1, 120, .inl tf)) :: (a2, soF a7 a8 r) :: (a7, soV y r) :: (a8, soW y r) :: (a3, soF a9 a10 rc) :: (a9, soV y rc) :: (a10, soW y rc) :: (a4, .inr (0, [.ref a11, .int qz, .int qn])) :: (a11, .inl (y 3, 14, .inr (.inr (.inr (.inr (gRf ga hq)))))) :: (a5, .inr (1, [.ref a12, .ref a13])) :: (a12, .inl (y 3, 2, .inr (.inr (.inr (.inr (gRf gb lq)))))) :: (a13, .inl (y 2, 2, .inl lfl)) :: gTail y ga gb hq lq) zh) ((a0, .inr (4, [.ref a1, .ref a2, .ref a3, .ref a4, .ref a5])) :: (a1, .inr (3, [.ref a6, .int tn])) :: (a6, .inl (y 1, 120, .inl tf)) :: (a2, soF a7 a8 u.1) :: (a7, soV y u.1) :: (a8, soW y u.1) :: (a3, soF a9 a10 rc) :: (a9, soV y rc) :: (a10, soW y rc) :: (a4, .inr (0, [.ref a11, .int u.2.1, .int u.2.2])) :: (a11, .inl (y 3, 14, .inr (.inr (.inr (.inr (gRf g1 hq)))))) :: (a5, .inr (1, [.ref a12, .ref a13])) :: (a12, .inl (y 3, 2, .inr (.inr (.inr (.inr (gRf g2 lq)))))) :: (a13, .inl (y 2, 2, .inl lfl)) :: gTail y g1 g2 hq lq)) (va_A ((a0, .inr (4, [.ref a1, .ref a2, .ref a3, .ref a4, .ref a5])) :: (a1, .inr (3, [.ref a6, .int tn])) :: (a6, .inl (y 1, 120, .inl tf)) :: (a2, soF a7 a8 r) :: (a7, soV y r) :: (a8, soW y r) :: (a3, soF a9 a10 rc) :: (a9, soV y rc) :: (a10, soW y rc) :: (a4, .inr (0, [.ref a11, .int qz, .int qn])) :: (a11, .inl (y 3, 14, .inr (.inr (.inr (.inr (gRf ga hq)))))) :: (a5, .inr (1, [.ref a12, .ref a13])) :: (a12, .inl (y 3, 2, .inr (.inr (.inr (.inr (gRf gb lq)))))) :: (a13, .inl (y 2, 2, .inl lfl)) :: gTail y ga gb hq lq) zh)) 0 0 (va_A ((a0, .inr (4, [.ref a1, .ref a2, .ref a3, .ref a4, .ref a5])) :: (a1, .inr (3, [.ref a6, .int tn])) :: (a6, .inl (y 1, 120, .inl tf)) :: (a2, soF a7 a8 r) :: (a7, soV y r) :: (a8, soW y r) :: (a3, soF a9 a10 rc) :: (a9, soV y rc) :: (a10, soW y rc) :: (a4, .inr (0, [.ref a11, .int qz, .int qn])) :: (a11, .inl (y 3, 14, .inr (.inr (.inr (.inr (gRf ga hq)))))) :: (a5, .inr (1, [.ref a12, .ref a13])) :: (a12, .inl (y 3, 2, .inr (.inr (.inr (.inr (gRf gb lq)))))) :: (a13, .inl (y 2, 2, .inl lfl)) :: gTail y ga gb hq lq) zh) := by
  refine Met.ofW (cc := cX0_takeBack) (maxL := 3) (ret := (some .boolean)) (by decide) rfl ?_
  intro p e s m args below meth c s₁ B hml hv
  obtain ⟨rfl, hsz, hP, hE, hD⟩ := hv
  have hx := B.exec
  have hb := B.bytes
  have hr := B.returns
  have hts := atoms_spec (ws := wsX0_takeBack) B.pre
  have hown : s.vm.findClass RX0 = some m.cls := findClass_of_methodNamed B.named
  have hlocks := B.notSynchronized
  have w_0 := hts (.fieldLink RX0 19 "GapLines$History" "next" "I") (List.mem_cons_of_mem _ (List.mem_append_left _ (List.mem_append_left _ (List.mem_append_left _ (List.mem_of_getElem? (i := 0) rfl)))))
  have hi0 : ∀ w ∈ u_ws RX0 TX0 3, w ∈ wsX0_takeBack := fun w h => (List.mem_cons_of_mem _ (List.mem_append_left _ (List.mem_append_right _ h)))
  have w_2 := hts (.fieldLink RX0 15 "GapLines$History" "size" "I") (List.mem_cons_of_mem _ (List.mem_append_left _ (List.mem_append_left _ (List.mem_append_left _ (List.mem_of_getElem? (i := 1) rfl)))))
  have w_3 := hts (.fieldLink RX0 11 "GapLines$History" "states" "[LGapLines$State;") (List.mem_cons_of_mem _ (List.mem_append_left _ (List.mem_append_left _ (List.mem_append_left _ (List.mem_of_getElem? (i := 2) rfl)))))
  subst hsz
  have hD := hD.self (sz := s.heap.size)
  generalize hAe : va_A ((a0, .inr (4, [.ref a1, .ref a2, .ref a3, .ref a4, .ref a5])) :: (a1, .inr (3, [.ref a6, .int tn])) :: (a6, .inl (y 1, 120, .inl tf)) :: (a2, soF a7 a8 r) :: (a7, soV y r) :: (a8, soW y r) :: (a3, soF a9 a10 rc) :: (a9, soV y rc) :: (a10, soW y rc) :: (a4, .inr (0, [.ref a11, .int qz, .int qn])) :: (a11, .inl (y 3, 14, .inr (.inr (.inr (.inr (gRf ga hq)))))) :: (a5, .inr (1, [.ref a12, .ref a13])) :: (a12, .inl (y 3, 2, .inr (.inr (.inr (.inr (gRf gb lq)))))) :: (a13, .inl (y 2, 2, .inl lfl)) :: gTail y ga gb hq lq) s.heap.size = A at hD ⊢
  have hA : ∀ q : Nat, s.heap.size ≤ q → A q := fun q h => by rw [← hAe]; exact Or.inr h
  have hS : va_S A s.heap s.heap [] := va_S.rf
  have hl := lv_entry ([.ref a4, .ref a2]) (n := 3) (Nat.le_of_ble_eq_true rfl)
  rw [lg_entry_eq]
  generalize (lg_sl ([.ref a4, .ref a2]) ++ List.replicate (3 - (lg_sl ([.ref a4, .ref a2])).length) Slot.unset).toArray = ls at hl ⊢
  have hl : lv_has ls 3 [(0, .ref a4), (1, .ref a2)] := hl
  obtain ⟨T, hT⟩ : ∃ T : va_W, gTail y ga gb hq lq = T := ⟨_, rfl⟩
  rw [hT] at hP hD
  refine lv_aload_n hx hb dX0_takeBack_0 rfl (lv_at hl 0 rfl) ?_
  refine va_get (D := D) (ci := 0) (v := .int qn) (C := RX0) (T := TX0) (N := 3) hx hb hts hi0 hown hE.1 hP 9 rfl rfl 2 (by decide) w_0 (fun _ h9 => h9) rfl dX0_takeBack_1 ?_
  refine lv_if_le (tgt := 16) hx hb dX0_takeBack_4 (by decide) (fun c_1 => ?_) (fun c_1 => ?_)
  · skip
    refine lv_bipush (v := 13) hx hb dX0_takeBack_16 (by decide) ?_
    refine lv_istore_n (lv' := [(2, .int 13), (0, .ref a4), (1, .ref a2)]) hx hb dX0_takeBack_18 rfl hl (by decide) rfl (fun ls hl => ?_)
    refine lv_aload_n hx hb dX0_takeBack_19 rfl (lv_at hl 1 rfl) ?_
    refine va_get (D := D) (ci := 0) (v := .int qz) (C := RX0) (T := TX0) (N := 3) hx hb hts hi0 hown hE.1 hP 9 rfl rfl 1 (by decide) w_2 (fun _ h9 => h9) rfl dX0_takeBack_20 ?_
    refine lv_if_eq (tgt := 35) hx hb dX0_takeBack_23 (by decide) (fun c_2 => ?_) (fun c_2 => ?_)
    · skip
      refine lv_iconst (v := 0) hx hb dX0_takeBack_35 (by decide) ?_
      have hF : f_X0_takeBack r qz qn hq = (0, r, qz, qn) := by
        exact tb_zero (by assumption)
      rw [← hT] at hP hD
      exact W.zret (v := 0) hx hb hr rfl (fun t ht hW => ⟨⟨0, ⟨r, qz, qn⟩, rfl, hF, ⟨ga, gb, by rw [ht]; exact hP, hD⟩⟩, hS.F ht⟩) hS.2.2 dX0_takeBack_36
    · skip
      refine lv_aload_n hx hb dX0_takeBack_26 rfl (lv_at hl 1 rfl) ?_
      refine va_get (D := D) (ci := 0) (v := .ref a11) (C := RX0) (T := TX0) (N := 3) hx hb hts hi0 hown hE.1 hP 9 rfl rfl 0 (by decide) w_3 (fun _ h9 => h9) rfl dX0_takeBack_27 ?_
      refine lv_iload_n hx hb dX0_takeBack_30 rfl (lv_at hl 0 rfl) ?_
      refine va_aldq hx hb hE.1 hP 10 3 rfl rfl (xin (by decide)) dX0_takeBack_31 ?_
      rcases hk3 : hq ((13 : Int32).toNatClampNeg) with _ | s4
      · rw [gRf_none hk3]
        refine lv_ifnonnullN hx hb dX0_takeBack_32 ?_
        obtain ⟨T5, hT5⟩ : ∃ T : va_W, gPool y ga (gHole hq ((13 : Int32).toNatClampNeg)) 14 ++ gPool y gb lq 2 = T := ⟨_, rfl⟩
        have hTT : T = T5 := by rw [← hT, ← hT5, gHole_none hk3, gTail]
        rw [hTT] at hP hD
        refine lv_iconst (v := 0) hx hb dX0_takeBack_35 (by decide) ?_
        rw [← hTT] at hP hD
        have hF : f_X0_takeBack r qz qn hq = (0, r, qz, qn) := by
          exact tb_none (by assumption) (by first | exact if_pos (by assumption) | exact if_neg (by assumption)) hk3
        rw [← hT] at hP hD
        exact W.zret (v := 0) hx hb hr rfl (fun t ht hW => ⟨⟨0, ⟨r, qz, qn⟩, rfl, hF, ⟨ga, gb, by rw [ht]; exact hP, hD⟩⟩, hS.F ht⟩) hS.2.2 dX0_takeBack_36
      · rw [gRf_some hk3]
        refine lv_ifnonnull (tgt := 37) hx hb dX0_takeBack_32 (by decide) ?_
        obtain ⟨T6, hT6⟩ : ∃ T : va_W, gPool y ga (gHole hq ((13 : Int32).toNatClampNeg)) 14 ++ gPool y gb lq 2 = T := ⟨_, rfl⟩
        have hp := gT_outH' hT hT6 (by decide) hk3 [(a0, .inr (4, [.ref a1, .ref a2, .ref a3, .ref a4, .ref a5])), (a1, .inr (3, [.ref a6, .int tn])), (a6, .inl (y 1, 120, .inl tf)), (a2, soF a7 a8 r), (a7, soV y r), (a8, soW y r), (a3, soF a9 a10 rc), (a9, soV y rc), (a10, soW y rc), (a4, .inr (0, [.ref a11, .int qz, .int qn])), (a11, .inl (y 3, 14, .inr (.inr (.inr (.inr (gRf ga hq)))))), (a5, .inr (1, [.ref a12, .ref a13])), (a12, .inl (y 3, 2, .inr (.inr (.inr (.inr (gRf gb lq)))))), (a13, .inl (y 2, 2, .inl lfl))]
        have hP := xa_permP hp hP
        have hD := xa_permD hp hD
        have hP : va_P D vwCl ((a0, .inr (4, [.ref a1, .ref a2, .ref a3, .ref a4, .ref a5])) :: (a1, .inr (3, [.ref a6, .int tn])) :: (a6, .inl (y 1, 120, .inl tf)) :: (a2, soF a7 a8 r) :: (a7, soV y r) :: (a8, soW y r) :: (a3, soF a9 a10 rc) :: (a9, soV y rc) :: (a10, soW y rc) :: (a4, .inr (0, [.ref a11, .int qz, .int qn])) :: (a11, .inl (y 3, 14, .inr (.inr (.inr (.inr (gRf ga hq)))))) :: (a5, .inr (1, [.ref a12, .ref a13])) :: (a12, .inl (y 3, 2, .inr (.inr (.inr (.inr (gRf gb lq)))))) :: (a13, .inl (y 2, 2, .inl lfl)) :: ((ga ((13 : Int32).toNatClampNeg)).1, soF (ga ((13 : Int32).toNatClampNeg)).2.1 (ga ((13 : Int32).toNatClampNeg)).2.2 s4) :: ((ga ((13 : Int32).toNatClampNeg)).2.1, soV y s4) :: ((ga ((13 : Int32).toNatClampNeg)).2.2, soW y s4) :: T6) s.heap := hP
        have hD : va_D A ((a0, .inr (4, [.ref a1, .ref a2, .ref a3, .ref a4, .ref a5])) :: (a1, .inr (3, [.ref a6, .int tn])) :: (a6, .inl (y 1, 120, .inl tf)) :: (a2, soF a7 a8 r) :: (a7, soV y r) :: (a8, soW y r) :: (a3, soF a9 a10 rc) :: (a9, soV y rc) :: (a10, soW y rc) :: (a4, .inr (0, [.ref a11, .int qz, .int qn])) :: (a11, .inl (y 3, 14, .inr (.inr (.inr (.inr (gRf ga hq)))))) :: (a5, .inr (1, [.ref a12, .ref a13])) :: (a12, .inl (y 3, 2, .inr (.inr (.inr (.inr (gRf gb lq)))))) :: (a13, .inl (y 2, 2, .inl lfl)) :: ((ga ((13 : Int32).toNatClampNeg)).1, soF (ga ((13 : Int32).toNatClampNeg)).2.1 (ga ((13 : Int32).toNatClampNeg)).2.2 s4) :: ((ga ((13 : Int32).toNatClampNeg)).2.1, soV y s4) :: ((ga ((13 : Int32).toNatClampNeg)).2.2, soW y s4) :: T6) := hD
        refine lv_aload_n hx hb dX0_takeBack_37 rfl (lv_at hl 2 rfl) ?_
        refine lv_aload_n hx hb dX0_takeBack_38 rfl (lv_at hl 1 rfl) ?_
        refine va_get (D := D) (ci := 0) (v := .ref a11) (C := RX0) (T := TX0) (N := 3) hx hb hts hi0 hown hE.1 hP 9 rfl rfl 0 (by decide) w_3 (fun _ h9 => h9) rfl dX0_takeBack_39 ?_
        refine lv_iload_n hx hb dX0_takeBack_42 rfl (lv_at hl 0 rfl) ?_
        refine va_aldq hx hb hE.1 hP 10 3 rfl rfl (xin (by decide)) dX0_takeBack_43 ?_
        rw [gRf_some hk3]
        refine W.eq (g2 := F0 m 44 ls (.ref (ga ((13 : Int32).toNatClampNeg)).1 :: [.ref a2])) rfl ?_
        refine xw_callv (va_runV (As := [.ref (ga ((13 : Int32).toNatClampNeg)).1]) (rest := []) ⟨hx, hb, hml, hown, hts⟩ (c_X3_copyFrom l D y a2 a7 a8 (ga ((13 : Int32).toNatClampNeg)).1 (ga ((13 : Int32).toNatClampNeg)).2.1 (ga ((13 : Int32).toNatClampNeg)).2.2 s.heap.size r s4 (hoq _ _ hk3)) (cwV 1 hts gX0_takeBack_X3_copyFrom rfl rfl rfl hd_X3_copyFrom ⟨Nat.le_of_ble_eq_true rfl, Nat.le_of_ble_eq_true rfl⟩) (gV (q := (RX3, TX3, 15)) hE (hP.sub [3, 4, 5, 14, 15, 16] rfl) (hD.sub [3, 4, 5, 14, 15, 16] (by decide) rfl) 0 rfl rfl) rfl rfl hl.1 rfl (lv_room (Nat.le_of_ble_eq_true rfl)) dX0_takeBack_44 ⟨Nat.le_of_ble_eq_true rfl, Nat.le_of_ble_eq_true rfl⟩) hP hD hS hA [3, 4, 5, 14, 15, 16] rfl (by decide) (fun _ => rfl) (fun u8 H locs h7 hP hD hS => ?_)
        obtain rfl : s4 = u8 := h7
        have hP : va_P D vwCl ((a0, .inr (4, [.ref a1, .ref a2, .ref a3, .ref a4, .ref a5])) :: (a1, .inr (3, [.ref a6, .int tn])) :: (a6, .inl (y 1, 120, .inl tf)) :: (a2, soF a7 a8 s4) :: (a7, soV y s4) :: (a8, soW y s4) :: (a3, soF a9 a10 rc) :: (a9, soV y rc) :: (a10, soW y rc) :: (a4, .inr (0, [.ref a11, .int qz, .int qn])) :: (a11, .inl (y 3, 14, .inr (.inr (.inr (.inr (gRf ga hq)))))) :: (a5, .inr (1, [.ref a12, .ref a13])) :: (a12, .inl (y 3, 2, .inr (.inr (.inr (.inr (gRf gb lq)))))) :: (a13, .inl (y 2, 2, .inl lfl)) :: ((ga ((13 : Int32).toNatClampNeg)).1, soF (ga ((13 : Int32).toNatClampNeg)).2.1 (ga ((13 : Int32).toNatClampNeg)).2.2 s4) :: ((ga ((13 : Int32).toNatClampNeg)).2.1, soV y s4) :: ((ga ((13 : Int32).toNatClampNeg)).2.2, soW y s4) :: T6) H := hP
        have hD : va_D A ((a0, .inr (4, [.ref a1, .ref a2, .ref a3, .ref a4, .ref a5])) :: (a1, .inr (3, [.ref a6, .int tn])) :: (a6, .inl (y 1, 120, .inl tf)) :: (a2, soF a7 a8 s4) :: (a7, soV y s4) :: (a8, soW y s4) :: (a3, soF a9 a10 rc) :: (a9, soV y rc) :: (a10, soW y rc) :: (a4, .inr (0, [.ref a11, .int qz, .int qn])) :: (a11, .inl (y 3, 14, .inr (.inr (.inr (.inr (gRf ga hq)))))) :: (a5, .inr (1, [.ref a12, .ref a13])) :: (a12, .inl (y 3, 2, .inr (.inr (.inr (.inr (gRf gb lq)))))) :: (a13, .inl (y 2, 2, .inl lfl)) :: ((ga ((13 : Int32).toNatClampNeg)).1, soF (ga ((13 : Int32).toNatClampNeg)).2.1 (ga ((13 : Int32).toNatClampNeg)).2.2 s4) :: ((ga ((13 : Int32).toNatClampNeg)).2.1, soV y s4) :: ((ga ((13 : Int32).toNatClampNeg)).2.2, soW y s4) :: T6) := hD
        refine lv_aload_n hx hb dX0_takeBack_47 rfl (lv_at hl 1 rfl) ?_
        refine lv_iload_n hx hb dX0_takeBack_48 rfl (lv_at hl 0 rfl) ?_
        refine va_put (D := D) (ci := 0) (v := .int 13) (ty := .int) (C := RX0) (T := TX0) (N := 3) hx hb hts hi0 tyX0 tyX0_ok nmX0 hown hE.1 hP hD hS 9 rfl rfl 2 (by decide) w_0 (fun _ h9 => h9) rfl (by decide +kernel) rfl rfl (Nat.le_of_ble_eq_true rfl) dX0_takeBack_49 (fun H locs hP hD hS => ?_)
        have hP : va_P D vwCl ((a0, .inr (4, [.ref a1, .ref a2, .ref a3, .ref a4, .ref a5])) :: (a1, .inr (3, [.ref a6, .int tn])) :: (a6, .inl (y 1, 120, .inl tf)) :: (a2, soF a7 a8 s4) :: (a7, soV y s4) :: (a8, soW y s4) :: (a3, soF a9 a10 rc) :: (a9, soV y rc) :: (a10, soW y rc) :: (a4, .inr (0, [.ref a11, .int qz, .int 13])) :: (a11, .inl (y 3, 14, .inr (.inr (.inr (.inr (gRf ga hq)))))) :: (a5, .inr (1, [.ref a12, .ref a13])) :: (a12, .inl (y 3, 2, .inr (.inr (.inr (.inr (gRf gb lq)))))) :: (a13, .inl (y 2, 2, .inl lfl)) :: ((ga ((13 : Int32).toNatClampNeg)).1, soF (ga ((13 : Int32).toNatClampNeg)).2.1 (ga ((13 : Int32).toNatClampNeg)).2.2 s4) :: ((ga ((13 : Int32).toNatClampNeg)).2.1, soV y s4) :: ((ga ((13 : Int32).toNatClampNeg)).2.2, soW y s4) :: T6) H := hP
        have hD : va_D A ((a0, .inr (4, [.ref a1, .ref a2, .ref a3, .ref a4, .ref a5])) :: (a1, .inr (3, [.ref a6, .int tn])) :: (a6, .inl (y 1, 120, .inl tf)) :: (a2, soF a7 a8 s4) :: (a7, soV y s4) :: (a8, soW y s4) :: (a3, soF a9 a10 rc) :: (a9, soV y rc) :: (a10, soW y rc) :: (a4, .inr (0, [.ref a11, .int qz, .int 13])) :: (a11, .inl (y 3, 14, .inr (.inr (.inr (.inr (gRf ga hq)))))) :: (a5, .inr (1, [.ref a12, .ref a13])) :: (a12, .inl (y 3, 2, .inr (.inr (.inr (.inr (gRf gb lq)))))) :: (a13, .inl (y 2, 2, .inl lfl)) :: ((ga ((13 : Int32).toNatClampNeg)).1, soF (ga ((13 : Int32).toNatClampNeg)).2.1 (ga ((13 : Int32).toNatClampNeg)).2.2 s4) :: ((ga ((13 : Int32).toNatClampNeg)).2.1, soV y s4) :: ((ga ((13 : Int32).toNatClampNeg)).2.2, soW y s4) :: T6) := hD
        refine lv_aload_n hx hb dX0_takeBack_52 rfl (lv_at hl 1 rfl) ?_
        refine lv_dup hx hb dX0_takeBack_53 rfl ?_
        refine va_get (D := D) (ci := 0) (v := .int qz) (C := RX0) (T := TX0) (N := 3) hx hb hts hi0 hown hE.1 hP 9 rfl rfl 1 (by decide) w_2 (fun _ h9 => h9) rfl dX0_takeBack_54 ?_
        refine lv_iconst (v := 1) hx hb dX0_takeBack_57 (by decide) ?_
        refine lv_isub hx hb dX0_takeBack_58 ?_
        refine va_put (D := D) (ci := 0) (v := .int (qz - 1)) (ty := .int) (C := RX0) (T := TX0) (N := 3) hx hb hts hi0 tyX0 tyX0_ok nmX0 hown hE.1 hP hD hS 9 rfl rfl 1 (by decide) w_2 (fun _ h9 => h9) rfl (by decide +kernel) rfl rfl (Nat.le_of_ble_eq_true rfl) dX0_takeBack_59 (fun H locs hP hD hS => ?_)
        have hP : va_P D vwCl ((a0, .inr (4, [.ref a1, .ref a2, .ref a3, .ref a4, .ref a5])) :: (a1, .inr (3, [.ref a6, .int tn])) :: (a6, .inl (y 1, 120, .inl tf)) :: (a2, soF a7 a8 s4) :: (a7, soV y s4) :: (a8, soW y s4) :: (a3, soF a9 a10 rc) :: (a9, soV y rc) :: (a10, soW y rc) :: (a4, .inr (0, [.ref a11, .int (qz - 1), .int 13])) :: (a11, .inl (y 3, 14, .inr (.inr (.inr (.inr (gRf ga hq)))))) :: (a5, .inr (1, [.ref a12, .ref a13])) :: (a12, .inl (y 3, 2, .inr (.inr (.inr (.inr (gRf gb lq)))))) :: (a13, .inl (y 2, 2, .inl lfl)) :: ((ga ((13 : Int32).toNatClampNeg)).1, soF (ga ((13 : Int32).toNatClampNeg)).2.1 (ga ((13 : Int32).toNatClampNeg)).2.2 s4) :: ((ga ((13 : Int32).toNatClampNeg)).2.1, soV y s4) :: ((ga ((13 : Int32).toNatClampNeg)).2.2, soW y s4) :: T6) H := hP
        have hD : va_D A ((a0, .inr (4, [.ref a1, .ref a2, .ref a3, .ref a4, .ref a5])) :: (a1, .inr (3, [.ref a6, .int tn])) :: (a6, .inl (y 1, 120, .inl tf)) :: (a2, soF a7 a8 s4) :: (a7, soV y s4) :: (a8, soW y s4) :: (a3, soF a9 a10 rc) :: (a9, soV y rc) :: (a10, soW y rc) :: (a4, .inr (0, [.ref a11, .int (qz - 1), .int 13])) :: (a11, .inl (y 3, 14, .inr (.inr (.inr (.inr (gRf ga hq)))))) :: (a5, .inr (1, [.ref a12, .ref a13])) :: (a12, .inl (y 3, 2, .inr (.inr (.inr (.inr (gRf gb lq)))))) :: (a13, .inl (y 2, 2, .inl lfl)) :: ((ga ((13 : Int32).toNatClampNeg)).1, soF (ga ((13 : Int32).toNatClampNeg)).2.1 (ga ((13 : Int32).toNatClampNeg)).2.2 s4) :: ((ga ((13 : Int32).toNatClampNeg)).2.1, soV y s4) :: ((ga ((13 : Int32).toNatClampNeg)).2.2, soW y s4) :: T6) := hD
        refine lv_iconst (v := 1) hx hb dX0_takeBack_62 (by decide) ?_
        have hp := (gT_outH' hT hT6 (by decide) hk3 [(a0, .inr (4, [.ref a1, .ref a2, .ref a3, .ref a4, .ref a5])), (a1, .inr (3, [.ref a6, .int tn])), (a6, .inl (y 1, 120, .inl tf)), (a2, soF a7 a8 s4), (a7, soV y s4), (a8, soW y s4), (a3, soF a9 a10 rc), (a9, soV y rc), (a10, soW y rc), (a4, .inr (0, [.ref a11, .int (qz - 1), .int 13])), (a11, .inl (y 3, 14, .inr (.inr (.inr (.inr (gRf ga hq)))))), (a5, .inr (1, [.ref a12, .ref a13])), (a12, .inl (y 3, 2, .inr (.inr (.inr (.inr (gRf gb lq)))))), (a13, .inl (y 2, 2, .inl lfl))]).symm
        have hP := xa_permP hp hP
        have hD := xa_permD hp hD
        have hP : va_P D vwCl ((a0, .inr (4, [.ref a1, .ref a2, .ref a3, .ref a4, .ref a5])) :: (a1, .inr (3, [.ref a6, .int tn])) :: (a6, .inl (y 1, 120, .inl tf)) :: (a2, soF a7 a8 s4) :: (a7, soV y s4) :: (a8, soW y s4) :: (a3, soF a9 a10 rc) :: (a9, soV y rc) :: (a10, soW y rc) :: (a4, .inr (0, [.ref a11, .int (qz - 1), .int 13])) :: (a11, .inl (y 3, 14, .inr (.inr (.inr (.inr (gRf ga hq)))))) :: (a5, .inr (1, [.ref a12, .ref a13])) :: (a12, .inl (y 3, 2, .inr (.inr (.inr (.inr (gRf gb lq)))))) :: (a13, .inl (y 2, 2, .inl lfl)) :: T) H := hP
        have hD : va_D A ((a0, .inr (4, [.ref a1, .ref a2, .ref a3, .ref a4, .ref a5])) :: (a1, .inr (3, [.ref a6, .int tn])) :: (a6, .inl (y 1, 120, .inl tf)) :: (a2, soF a7 a8 s4) :: (a7, soV y s4) :: (a8, soW y s4) :: (a3, soF a9 a10 rc) :: (a9, soV y rc) :: (a10, soW y rc) :: (a4, .inr (0, [.ref a11, .int (qz - 1), .int 13])) :: (a11, .inl (y 3, 14, .inr (.inr (.inr (.inr (gRf ga hq)))))) :: (a5, .inr (1, [.ref a12, .ref a13])) :: (a12, .inl (y 3, 2, .inr (.inr (.inr (.inr (gRf gb lq)))))) :: (a13, .inl (y 2, 2, .inl lfl)) :: T) := hD
        have hF : f_X0_takeBack r qz qn hq = (1, s4, (qz - 1), 13) := by
          exact tb_some (by assumption) (by first | exact if_pos (by assumption) | exact if_neg (by assumption)) hk3
        rw [← hT] at hP hD
        exact W.zret (v := 1) hx hb hr rfl (fun t ht hW => ⟨⟨1, ⟨s4, (qz - 1), 13⟩, rfl, hF, ⟨ga, gb, by rw [ht]; exact hP, hD⟩⟩, hS.F ht⟩) hS.2.2 dX0_takeBack_63
  · skip
    refine lv_aload_n hx hb dX0_takeBack_7 rfl (lv_at hl 0 rfl) ?_
    refine va_get (D := D) (ci := 0) (v := .int qn) (C := RX0) (T := TX0) (N := 3) hx hb hts hi0 hown hE.1 hP 9 rfl rfl 2 (by decide) w_0 (fun _ h9 => h9) rfl dX0_takeBack_8 ?_
    refine lv_iconst (v := 1) hx hb dX0_takeBack_11 (by decide) ?_
    refine lv_isub hx hb dX0_takeBack_12 ?_
    refine lv_goto (tgt := 18) hx hb dX0_takeBack_13 (by decide) ?_
    refine lv_istore_n (lv' := [(2, .int (qn - 1)), (0, .ref a4), (1, .ref a2)]) hx hb dX0_takeBack_18 rfl hl (by decide) rfl (fun ls hl => ?_)
    refine lv_aload_n hx hb dX0_takeBack_19 rfl (lv_at hl 1 rfl) ?_
    refine va_get (D := D) (ci := 0) (v := .int qz) (C := RX0) (T := TX0) (N := 3) hx hb hts hi0 hown hE.1 hP 9 rfl rfl 1 (by decide) w_2 (fun _ h9 => h9) rfl dX0_takeBack_20 ?_
    refine lv_if_eq (tgt := 35) hx hb dX0_takeBack_23 (by decide) (fun c_9 => ?_) (fun c_9 => ?_)
    · skip
      refine lv_iconst (v := 0) hx hb dX0_takeBack_35 (by decide) ?_
      have hF : f_X0_takeBack r qz qn hq = (0, r, qz, qn) := by
        exact tb_zero (by assumption)
      rw [← hT] at hP hD
      exact W.zret (v := 0) hx hb hr rfl (fun t ht hW => ⟨⟨0, ⟨r, qz, qn⟩, rfl, hF, ⟨ga, gb, by rw [ht]; exact hP, hD⟩⟩, hS.F ht⟩) hS.2.2 dX0_takeBack_36
    · skip
      refine lv_aload_n hx hb dX0_takeBack_26 rfl (lv_at hl 1 rfl) ?_
      refine va_get (D := D) (ci := 0) (v := .ref a11) (C := RX0) (T := TX0) (N := 3) hx hb hts hi0 hown hE.1 hP 9 rfl rfl 0 (by decide) w_3 (fun _ h9 => h9) rfl dX0_takeBack_27 ?_
      refine lv_iload_n hx hb dX0_takeBack_30 rfl (lv_at hl 0 rfl) ?_
      refine va_aldq hx hb hE.1 hP 10 3 rfl rfl (xin2 (dec14 hh (by assumption)).1 (dec14 hh (by assumption)).2) dX0_takeBack_31 ?_
      rcases hk10 : hq ((qn - 1).toNatClampNeg) with _ | s11
      · rw [gRf_none hk10]
        refine lv_ifnonnullN hx hb dX0_takeBack_32 ?_
        obtain ⟨T12, hT12⟩ : ∃ T : va_W, gPool y ga (gHole hq ((qn - 1).toNatClampNeg)) 14 ++ gPool y gb lq 2 = T := ⟨_, rfl⟩
        have hTT : T = T12 := by rw [← hT, ← hT12, gHole_none hk10, gTail]
        rw [hTT] at hP hD
        refine lv_iconst (v := 0) hx hb dX0_takeBack_35 (by decide) ?_
        rw [← hTT] at hP hD
        have hF : f_X0_takeBack r qz qn hq = (0, r, qz, qn) := by
          exact tb_none (by assumption) (by first | exact if_pos (by assumption) | exact if_neg (by assumption)) hk10
        rw [← hT] at hP hD
        exact W.zret (v := 0) hx hb hr rfl (fun t ht hW => ⟨⟨0, ⟨r, qz, qn⟩, rfl, hF, ⟨ga, gb, by rw [ht]; exact hP, hD⟩⟩, hS.F ht⟩) hS.2.2 dX0_takeBack_36
      · rw [gRf_some hk10]
        refine lv_ifnonnull (tgt := 37) hx hb dX0_takeBack_32 (by decide) ?_
        obtain ⟨T13, hT13⟩ : ∃ T : va_W, gPool y ga (gHole hq ((qn - 1).toNatClampNeg)) 14 ++ gPool y gb lq 2 = T := ⟨_, rfl⟩
        have hp := gT_outH' hT hT13 (vp_lt (xin2 (dec14 hh (by assumption)).1 (dec14 hh (by assumption)).2)) hk10 [(a0, .inr (4, [.ref a1, .ref a2, .ref a3, .ref a4, .ref a5])), (a1, .inr (3, [.ref a6, .int tn])), (a6, .inl (y 1, 120, .inl tf)), (a2, soF a7 a8 r), (a7, soV y r), (a8, soW y r), (a3, soF a9 a10 rc), (a9, soV y rc), (a10, soW y rc), (a4, .inr (0, [.ref a11, .int qz, .int qn])), (a11, .inl (y 3, 14, .inr (.inr (.inr (.inr (gRf ga hq)))))), (a5, .inr (1, [.ref a12, .ref a13])), (a12, .inl (y 3, 2, .inr (.inr (.inr (.inr (gRf gb lq)))))), (a13, .inl (y 2, 2, .inl lfl))]
        have hP := xa_permP hp hP
        have hD := xa_permD hp hD
        have hP : va_P D vwCl ((a0, .inr (4, [.ref a1, .ref a2, .ref a3, .ref a4, .ref a5])) :: (a1, .inr (3, [.ref a6, .int tn])) :: (a6, .inl (y 1, 120, .inl tf)) :: (a2, soF a7 a8 r) :: (a7, soV y r) :: (a8, soW y r) :: (a3, soF a9 a10 rc) :: (a9, soV y rc) :: (a10, soW y rc) :: (a4, .inr (0, [.ref a11, .int qz, .int qn])) :: (a11, .inl (y 3, 14, .inr (.inr (.inr (.inr (gRf ga hq)))))) :: (a5, .inr (1, [.ref a12, .ref a13])) :: (a12, .inl (y 3, 2, .inr (.inr (.inr (.inr (gRf gb lq)))))) :: (a13, .inl (y 2, 2, .inl lfl)) :: ((ga ((qn - 1).toNatClampNeg)).1, soF (ga ((qn - 1).toNatClampNeg)).2.1 (ga ((qn - 1).toNatClampNeg)).2.2 s11) :: ((ga ((qn - 1).toNatClampNeg)).2.1, soV y s11) :: ((ga ((qn - 1).toNatClampNeg)).2.2, soW y s11) :: T13) s.heap := hP
        have hD : va_D A ((a0, .inr (4, [.ref a1, .ref a2, .ref a3, .ref a4, .ref a5])) :: (a1, .inr (3, [.ref a6, .int tn])) :: (a6, .inl (y 1, 120, .inl tf)) :: (a2, soF a7 a8 r) :: (a7, soV y r) :: (a8, soW y r) :: (a3, soF a9 a10 rc) :: (a9, soV y rc) :: (a10, soW y rc) :: (a4, .inr (0, [.ref a11, .int qz, .int qn])) :: (a11, .inl (y 3, 14, .inr (.inr (.inr (.inr (gRf ga hq)))))) :: (a5, .inr (1, [.ref a12, .ref a13])) :: (a12, .inl (y 3, 2, .inr (.inr (.inr (.inr (gRf gb lq)))))) :: (a13, .inl (y 2, 2, .inl lfl)) :: ((ga ((qn - 1).toNatClampNeg)).1, soF (ga ((qn - 1).toNatClampNeg)).2.1 (ga ((qn - 1).toNatClampNeg)).2.2 s11) :: ((ga ((qn - 1).toNatClampNeg)).2.1, soV y s11) :: ((ga ((qn - 1).toNatClampNeg)).2.2, soW y s11) :: T13) := hD
        refine lv_aload_n hx hb dX0_takeBack_37 rfl (lv_at hl 2 rfl) ?_
        refine lv_aload_n hx hb dX0_takeBack_38 rfl (lv_at hl 1 rfl) ?_
        refine va_get (D := D) (ci := 0) (v := .ref a11) (C := RX0) (T := TX0) (N := 3) hx hb hts hi0 hown hE.1 hP 9 rfl rfl 0 (by decide) w_3 (fun _ h9 => h9) rfl dX0_takeBack_39 ?_
        refine lv_iload_n hx hb dX0_takeBack_42 rfl (lv_at hl 0 rfl) ?_
        refine va_aldq hx hb hE.1 hP 10 3 rfl rfl (xin2 (dec14 hh (by assumption)).1 (dec14 hh (by assumption)).2) dX0_takeBack_43 ?_
        rw [gRf_some hk10]
        refine W.eq (g2 := F0 m 44 ls (.ref (ga ((qn - 1).toNatClampNeg)).1 :: [.ref a2])) rfl ?_
        refine xw_callv (va_runV (As := [.ref (ga ((qn - 1).toNatClampNeg)).1]) (rest := []) ⟨hx, hb, hml, hown, hts⟩ (c_X3_copyFrom l D y a2 a7 a8 (ga ((qn - 1).toNatClampNeg)).1 (ga ((qn - 1).toNatClampNeg)).2.1 (ga ((qn - 1).toNatClampNeg)).2.2 s.heap.size r s11 (hoq _ _ hk10)) (cwV 1 hts gX0_takeBack_X3_copyFrom rfl rfl rfl hd_X3_copyFrom ⟨Nat.le_of_ble_eq_true rfl, Nat.le_of_ble_eq_true rfl⟩) (gV (q := (RX3, TX3, 15)) hE (hP.sub [3, 4, 5, 14, 15, 16] rfl) (hD.sub [3, 4, 5, 14, 15, 16] (by decide) rfl) 0 rfl rfl) rfl rfl hl.1 rfl (lv_room (Nat.le_of_ble_eq_true rfl)) dX0_takeBack_44 ⟨Nat.le_of_ble_eq_true rfl, Nat.le_of_ble_eq_true rfl⟩) hP hD hS hA [3, 4, 5, 14, 15, 16] rfl (by decide) (fun _ => rfl) (fun u15 H locs h14 hP hD hS => ?_)
        obtain rfl : s11 = u15 := h14
        have hP : va_P D vwCl ((a0, .inr (4, [.ref a1, .ref a2, .ref a3, .ref a4, .ref a5])) :: (a1, .inr (3, [.ref a6, .int tn])) :: (a6, .inl (y 1, 120, .inl tf)) :: (a2, soF a7 a8 s11) :: (a7, soV y s11) :: (a8, soW y s11) :: (a3, soF a9 a10 rc) :: (a9, soV y rc) :: (a10, soW y rc) :: (a4, .inr (0, [.ref a11, .int qz, .int qn])) :: (a11, .inl (y 3, 14, .inr (.inr (.inr (.inr (gRf ga hq)))))) :: (a5, .inr (1, [.ref a12, .ref a13])) :: (a12, .inl (y 3, 2, .inr (.inr (.inr (.inr (gRf gb lq)))))) :: (a13, .inl (y 2, 2, .inl lfl)) :: ((ga ((qn - 1).toNatClampNeg)).1, soF (ga ((qn - 1).toNatClampNeg)).2.1 (ga ((qn - 1).toNatClampNeg)).2.2 s11) :: ((ga ((qn - 1).toNatClampNeg)).2.1, soV y s11) :: ((ga ((qn - 1).toNatClampNeg)).2.2, soW y s11) :: T13) H := hP
        have hD : va_D A ((a0, .inr (4, [.ref a1, .ref a2, .ref a3, .ref a4, .ref a5])) :: (a1, .inr (3, [.ref a6, .int tn])) :: (a6, .inl (y 1, 120, .inl tf)) :: (a2, soF a7 a8 s11) :: (a7, soV y s11) :: (a8, soW y s11) :: (a3, soF a9 a10 rc) :: (a9, soV y rc) :: (a10, soW y rc) :: (a4, .inr (0, [.ref a11, .int qz, .int qn])) :: (a11, .inl (y 3, 14, .inr (.inr (.inr (.inr (gRf ga hq)))))) :: (a5, .inr (1, [.ref a12, .ref a13])) :: (a12, .inl (y 3, 2, .inr (.inr (.inr (.inr (gRf gb lq)))))) :: (a13, .inl (y 2, 2, .inl lfl)) :: ((ga ((qn - 1).toNatClampNeg)).1, soF (ga ((qn - 1).toNatClampNeg)).2.1 (ga ((qn - 1).toNatClampNeg)).2.2 s11) :: ((ga ((qn - 1).toNatClampNeg)).2.1, soV y s11) :: ((ga ((qn - 1).toNatClampNeg)).2.2, soW y s11) :: T13) := hD
        refine lv_aload_n hx hb dX0_takeBack_47 rfl (lv_at hl 1 rfl) ?_
        refine lv_iload_n hx hb dX0_takeBack_48 rfl (lv_at hl 0 rfl) ?_
        refine va_put (D := D) (ci := 0) (v := .int (qn - 1)) (ty := .int) (C := RX0) (T := TX0) (N := 3) hx hb hts hi0 tyX0 tyX0_ok nmX0 hown hE.1 hP hD hS 9 rfl rfl 2 (by decide) w_0 (fun _ h9 => h9) rfl (by decide +kernel) rfl rfl (Nat.le_of_ble_eq_true rfl) dX0_takeBack_49 (fun H locs hP hD hS => ?_)
        have hP : va_P D vwCl ((a0, .inr (4, [.ref a1, .ref a2, .ref a3, .ref a4, .ref a5])) :: (a1, .inr (3, [.ref a6, .int tn])) :: (a6, .inl (y 1, 120, .inl tf)) :: (a2, soF a7 a8 s11) :: (a7, soV y s11) :: (a8, soW y s11) :: (a3, soF a9 a10 rc) :: (a9, soV y rc) :: (a10, soW y rc) :: (a4, .inr (0, [.ref a11, .int qz, .int (qn - 1)])) :: (a11, .inl (y 3, 14, .inr (.inr (.inr (.inr (gRf ga hq)))))) :: (a5, .inr (1, [.ref a12, .ref a13])) :: (a12, .inl (y 3, 2, .inr (.inr (.inr (.inr (gRf gb lq)))))) :: (a13, .inl (y 2, 2, .inl lfl)) :: ((ga ((qn - 1).toNatClampNeg)).1, soF (ga ((qn - 1).toNatClampNeg)).2.1 (ga ((qn - 1).toNatClampNeg)).2.2 s11) :: ((ga ((qn - 1).toNatClampNeg)).2.1, soV y s11) :: ((ga ((qn - 1).toNatClampNeg)).2.2, soW y s11) :: T13) H := hP
        have hD : va_D A ((a0, .inr (4, [.ref a1, .ref a2, .ref a3, .ref a4, .ref a5])) :: (a1, .inr (3, [.ref a6, .int tn])) :: (a6, .inl (y 1, 120, .inl tf)) :: (a2, soF a7 a8 s11) :: (a7, soV y s11) :: (a8, soW y s11) :: (a3, soF a9 a10 rc) :: (a9, soV y rc) :: (a10, soW y rc) :: (a4, .inr (0, [.ref a11, .int qz, .int (qn - 1)])) :: (a11, .inl (y 3, 14, .inr (.inr (.inr (.inr (gRf ga hq)))))) :: (a5, .inr (1, [.ref a12, .ref a13])) :: (a12, .inl (y 3, 2, .inr (.inr (.inr (.inr (gRf gb lq)))))) :: (a13, .inl (y 2, 2, .inl lfl)) :: ((ga ((qn - 1).toNatClampNeg)).1, soF (ga ((qn - 1).toNatClampNeg)).2.1 (ga ((qn - 1).toNatClampNeg)).2.2 s11) :: ((ga ((qn - 1).toNatClampNeg)).2.1, soV y s11) :: ((ga ((qn - 1).toNatClampNeg)).2.2, soW y s11) :: T13) := hD
        refine lv_aload_n hx hb dX0_takeBack_52 rfl (lv_at hl 1 rfl) ?_
        refine lv_dup hx hb dX0_takeBack_53 rfl ?_
        refine va_get (D := D) (ci := 0) (v := .int qz) (C := RX0) (T := TX0) (N := 3) hx hb hts hi0 hown hE.1 hP 9 rfl rfl 1 (by decide) w_2 (fun _ h9 => h9) rfl dX0_takeBack_54 ?_
        refine lv_iconst (v := 1) hx hb dX0_takeBack_57 (by decide) ?_
        refine lv_isub hx hb dX0_takeBack_58 ?_
        refine va_put (D := D) (ci := 0) (v := .int (qz - 1)) (ty := .int) (C := RX0) (T := TX0) (N := 3) hx hb hts hi0 tyX0 tyX0_ok nmX0 hown hE.1 hP hD hS 9 rfl rfl 1 (by decide) w_2 (fun _ h9 => h9) rfl (by decide +kernel) rfl rfl (Nat.le_of_ble_eq_true rfl) dX0_takeBack_59 (fun H locs hP hD hS => ?_)
        have hP : va_P D vwCl ((a0, .inr (4, [.ref a1, .ref a2, .ref a3, .ref a4, .ref a5])) :: (a1, .inr (3, [.ref a6, .int tn])) :: (a6, .inl (y 1, 120, .inl tf)) :: (a2, soF a7 a8 s11) :: (a7, soV y s11) :: (a8, soW y s11) :: (a3, soF a9 a10 rc) :: (a9, soV y rc) :: (a10, soW y rc) :: (a4, .inr (0, [.ref a11, .int (qz - 1), .int (qn - 1)])) :: (a11, .inl (y 3, 14, .inr (.inr (.inr (.inr (gRf ga hq)))))) :: (a5, .inr (1, [.ref a12, .ref a13])) :: (a12, .inl (y 3, 2, .inr (.inr (.inr (.inr (gRf gb lq)))))) :: (a13, .inl (y 2, 2, .inl lfl)) :: ((ga ((qn - 1).toNatClampNeg)).1, soF (ga ((qn - 1).toNatClampNeg)).2.1 (ga ((qn - 1).toNatClampNeg)).2.2 s11) :: ((ga ((qn - 1).toNatClampNeg)).2.1, soV y s11) :: ((ga ((qn - 1).toNatClampNeg)).2.2, soW y s11) :: T13) H := hP
        have hD : va_D A ((a0, .inr (4, [.ref a1, .ref a2, .ref a3, .ref a4, .ref a5])) :: (a1, .inr (3, [.ref a6, .int tn])) :: (a6, .inl (y 1, 120, .inl tf)) :: (a2, soF a7 a8 s11) :: (a7, soV y s11) :: (a8, soW y s11) :: (a3, soF a9 a10 rc) :: (a9, soV y rc) :: (a10, soW y rc) :: (a4, .inr (0, [.ref a11, .int (qz - 1), .int (qn - 1)])) :: (a11, .inl (y 3, 14, .inr (.inr (.inr (.inr (gRf ga hq)))))) :: (a5, .inr (1, [.ref a12, .ref a13])) :: (a12, .inl (y 3, 2, .inr (.inr (.inr (.inr (gRf gb lq)))))) :: (a13, .inl (y 2, 2, .inl lfl)) :: ((ga ((qn - 1).toNatClampNeg)).1, soF (ga ((qn - 1).toNatClampNeg)).2.1 (ga ((qn - 1).toNatClampNeg)).2.2 s11) :: ((ga ((qn - 1).toNatClampNeg)).2.1, soV y s11) :: ((ga ((qn - 1).toNatClampNeg)).2.2, soW y s11) :: T13) := hD
        refine lv_iconst (v := 1) hx hb dX0_takeBack_62 (by decide) ?_
        have hp := (gT_outH' hT hT13 (vp_lt (xin2 (dec14 hh (by assumption)).1 (dec14 hh (by assumption)).2)) hk10 [(a0, .inr (4, [.ref a1, .ref a2, .ref a3, .ref a4, .ref a5])), (a1, .inr (3, [.ref a6, .int tn])), (a6, .inl (y 1, 120, .inl tf)), (a2, soF a7 a8 s11), (a7, soV y s11), (a8, soW y s11), (a3, soF a9 a10 rc), (a9, soV y rc), (a10, soW y rc), (a4, .inr (0, [.ref a11, .int (qz - 1), .int (qn - 1)])), (a11, .inl (y 3, 14, .inr (.inr (.inr (.inr (gRf ga hq)))))), (a5, .inr (1, [.ref a12, .ref a13])), (a12, .inl (y 3, 2, .inr (.inr (.inr (.inr (gRf gb lq)))))), (a13, .inl (y 2, 2, .inl lfl))]).symm
        have hP := xa_permP hp hP
        have hD := xa_permD hp hD
        have hP : va_P D vwCl ((a0, .inr (4, [.ref a1, .ref a2, .ref a3, .ref a4, .ref a5])) :: (a1, .inr (3, [.ref a6, .int tn])) :: (a6, .inl (y 1, 120, .inl tf)) :: (a2, soF a7 a8 s11) :: (a7, soV y s11) :: (a8, soW y s11) :: (a3, soF a9 a10 rc) :: (a9, soV y rc) :: (a10, soW y rc) :: (a4, .inr (0, [.ref a11, .int (qz - 1), .int (qn - 1)])) :: (a11, .inl (y 3, 14, .inr (.inr (.inr (.inr (gRf ga hq)))))) :: (a5, .inr (1, [.ref a12, .ref a13])) :: (a12, .inl (y 3, 2, .inr (.inr (.inr (.inr (gRf gb lq)))))) :: (a13, .inl (y 2, 2, .inl lfl)) :: T) H := hP
        have hD : va_D A ((a0, .inr (4, [.ref a1, .ref a2, .ref a3, .ref a4, .ref a5])) :: (a1, .inr (3, [.ref a6, .int tn])) :: (a6, .inl (y 1, 120, .inl tf)) :: (a2, soF a7 a8 s11) :: (a7, soV y s11) :: (a8, soW y s11) :: (a3, soF a9 a10 rc) :: (a9, soV y rc) :: (a10, soW y rc) :: (a4, .inr (0, [.ref a11, .int (qz - 1), .int (qn - 1)])) :: (a11, .inl (y 3, 14, .inr (.inr (.inr (.inr (gRf ga hq)))))) :: (a5, .inr (1, [.ref a12, .ref a13])) :: (a12, .inl (y 3, 2, .inr (.inr (.inr (.inr (gRf gb lq)))))) :: (a13, .inl (y 2, 2, .inl lfl)) :: T) := hD
        have hF : f_X0_takeBack r qz qn hq = (1, s11, (qz - 1), (qn - 1)) := by
          exact tb_some (by assumption) (by first | exact if_pos (by assumption) | exact if_neg (by assumption)) hk10
        rw [← hT] at hP hD
        exact W.zret (v := 1) hx hb hr rfl (fun t ht hW => ⟨⟨1, ⟨s11, (qz - 1), (qn - 1)⟩, rfl, hF, ⟨ga, gb, by rw [ht]; exact hP, hD⟩⟩, hS.F ht⟩) hS.2.2 dX0_takeBack_63
