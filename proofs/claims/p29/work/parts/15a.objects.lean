/-! OBJECTS AS A WHOLE -/
def oW (y : Nat → ClassId) (av : Nat → Nat) (ga gb : Nat → Nat × Nat × Nat) (S : oS) : va_W := ((av 0), .inr (4, [.ref (av 1), .ref (av 2), .ref (av 3), .ref (av 4), .ref (av 5)])) :: ((av 1), .inr (3, [.ref (av 6), .int S.1])) :: ((av 6), .inl (y 1, 120, .inl S.2.1)) :: ((av 2), soF (av 7) (av 8) S.2.2.1) :: ((av 7), soV y S.2.2.1) :: ((av 8), soW y S.2.2.1) :: ((av 3), soF (av 9) (av 10) S.2.2.2.1) :: ((av 9), soV y S.2.2.2.1) :: ((av 10), soW y S.2.2.2.1) :: ((av 4), .inr (0, [.ref (av 11), .int S.2.2.2.2.1, .int S.2.2.2.2.2.1])) :: ((av 11), .inl (y 3, 14, .inr (.inr (.inr (.inr (gRf ga (S.2.2.2.2.2.2.1))))))) :: ((av 5), .inr (1, [.ref (av 12), .ref (av 13)])) :: ((av 12), .inl (y 3, 2, .inr (.inr (.inr (.inr (gRf gb (S.2.2.2.2.2.2.2.1))))))) :: ((av 13), .inl (y 2, 2, .inl (S.2.2.2.2.2.2.2.2))) :: gTail y ga gb (S.2.2.2.2.2.2.1) (S.2.2.2.2.2.2.2.1)
set_option maxHeartbeats 4000000 in
set_option maxRecDepth 100000 in
theorem c_call (l : Launch) (hst : l.stackTraces = false) (D : va_G) (y : Nat → ClassId) (av : Nat → Nat) (ga gb : Nat → Nat × Nat × Nat) (zh : Nat) (S : oS) (p1 p2 p3 p4 : Int32) (h : okS S) : Met l yL_call wsL_call ({ frames := 9, cells := 5, slots := 92, locals := 178 }) (lP D y [.ref (av 0), .int p1, .int p2, .int p3, .int p4] zh (oW y av ga gb S)) (va_Qi (fun (v : Int32) (u : oS) => fCall S p1 p2 p3 p4 = (v, u)) (fun (u : oS) t => ∃ (g1 g2 : Nat → Nat × Nat × Nat), va_P D vwCl (oW y av g1 g2 u) t.heap ∧ va_D (va_A (oW y av ga gb S) zh) (oW y av g1 g2 u)) (va_A (oW y av ga gb S) zh)) 5 92 (va_A (oW y av ga gb S) zh) :=
  c_L_call l hst D y (av 0) (av 1) (av 2) (av 3) (av 4) (av 5) (av 6) (av 7) (av 8) (av 9) (av 10) (av 11) (av 12) (av 13) ga gb zh (S.1) (S.2.1) (S.2.2.1) (S.2.2.2.1) (S.2.2.2.2.1) (S.2.2.2.2.2.1) (S.2.2.2.2.2.2.1) (S.2.2.2.2.2.2.2.1) (S.2.2.2.2.2.2.2.2) p1 p2 p3 p4 h.1 h.2.1 h.2.2.1 h.2.2.2.1 h.2.2.2.2
theorem okL_iff {r : gR} {N j : Nat} (e0 : r 0 = nI N) (hN : N ≤ 32) (hj : j < 2 ^ 31) : okL r (nI j) ↔ j < N := by
  unfold okL
  rw [e0, nI_toInt hj, nI_toInt (by omega)]
  omega
theorem neg_i {a : Nat} (h : a < 1000000) : ((-1) - nI a : Int32).toInt = -1 - (a : Int) := by
  have e : (-1 : Int32).toInt = -1 := by decide
  have q : (nI a).toInt = a := nI_toInt (by omega)
  rw [i_sub (by omega) (by omega), e, q]
theorem neg_lt {a : Nat} {b : Int32} (h : a < 1000000) (hb : 0 ≤ b.toInt) : ((-1) - nI a : Int32) < b := by
  rw [i_lt, neg_i h]
  omega
theorem nk_shape {j : Nat} : j < 14 → f_X5_isShape (nI (4 + 2 * j)) 2 = 0 := by
  have q : ∀ j, j < 14 → f_X5_isShape (nI (4 + 2 * j)) 2 = 0 := by decide +kernel
  exact q j
theorem sh_lt4 {n k : Int32} (h : n < 4) : f_X5_isShape n k = 0 := by unfold f_X5_isShape; rw [if_pos h]
theorem sh_gt {n k : Int32} (h0 : ¬ n < 4) (h : 32 < n) : f_X5_isShape n k = 0 := by unfold f_X5_isShape; rw [if_neg h0, if_pos h]
theorem sh_k1 {n k : Int32} (h0 : ¬ n < 4) (h1 : ¬ 32 < n) (h : k < 1) : f_X5_isShape n k = 0 := by unfold f_X5_isShape; rw [if_neg h0, if_neg h1, if_pos h]
theorem sh_kn {n k : Int32} (h0 : ¬ n < 4) (h1 : ¬ 32 < n) (h2 : ¬ k < 1) (h : n ≤ k) : f_X5_isShape n k = 0 := by unfold f_X5_isShape; rw [if_neg h0, if_neg h1, if_neg h2, if_pos h]
/-! the law's own script, read by 'cell' -/
def cP (b L : Nat) (xs : Nat → Int32) (k : Int32) (sz : Nat) : Array Value → State → Prop := va_Pc [.ref b, .int k] (fun U => (U.heap.size = sz ∧ b < sz) ∧ va_X b L xs U U.heap)
theorem cP_blind {b L : Nat} {xs : Nat → Int32} {k : Int32} {sz : Nat} : FrameBlind (cP b L xs k sz) := fun a U g mk q => ⟨q.1, q.2.1, va_X.moved (u := U) (State.WarmedH.refl U).alike q.2.2⟩
theorem cS {b L : Nat} {xs : Nat → Int32} {k : Int32} {H : Heap} {A : Nat → Prop} {s : State} {locs : List Loc} (hX : va_X b L xs s s.heap) (hbl : b < s.heap.size) (hbA : ¬ A b) (hS : va_S A s.heap H locs) : PreS s H (cP b L xs k H.size) [.ref b, .int k] :=
  ⟨cP_blind, fun U hU hW => ⟨rfl, ⟨by rw [hU], Nat.lt_of_lt_of_le hbl hS.1⟩, by rw [hU]; exact va_X.moved hW.alike (hX.kept (hS.2.1 b hbl hbA))⟩⟩
def cellV (L : Nat) (xs : Nat → Int32) (k : Nat) : Int32 := (if k < L then xs k else 15518993 * (nI k + 3) + 11171) &&& 2147483647
theorem cell_nat (L : Nat) (xs : Nat → Int32) (k : Nat) : ∃ X : Nat, X < 2 ^ 31 ∧ cellV L xs k = nI X := pk_andE _ 31 (by decide)
set_option maxHeartbeats 4000000 in
set_option maxRecDepth 100000 in
theorem c_cell (l : Launch) (b L : Nat) (xs : Nat → Int32) (k zh : Nat) (hk : k < 1000) (hL : L ≤ 1000) : Met l yL_cell wsL_cell ({ frames := 0, cells := 0, slots := 0, locals := 0 }) (cP b L xs (nI k) zh) (vp_Si (fun v : Int32 => cellV L xs k = v)) 0 0 (fun _ => False) := by
  refine Met.ofW (cc := cL_cell) (maxL := 2) (ret := (some .int)) (by decide) rfl ?_
  intro p e s m args below meth c s₁ B hml hv
  obtain ⟨rfl, ⟨hsz, hbl⟩, hX⟩ := hv
  have hx := B.exec
  have hb := B.bytes
  have hr := B.returns
  have hts := atoms_spec (ws := wsL_cell) B.pre
  have hown : s.vm.findClass RL = some m.cls := findClass_of_methodNamed B.named
  have w_0 := hts (.constant RL 169 (2147483647)) (List.mem_cons_of_mem _ (List.mem_of_getElem? (i := 1) rfl))
  have w_1 := hts (.constant RL 168 (15518993)) (List.mem_cons_of_mem _ (List.mem_of_getElem? (i := 0) rfl))
  subst hsz
  have hS : va_S (fun q : Nat => s.heap.size ≤ q) s.heap s.heap [] := va_S.rf
  have hbA : ¬ (fun q : Nat => s.heap.size ≤ q) b := Nat.not_le.mpr hbl
  have hl := lv_entry ([.ref b, .int (nI k)]) (n := 2) (Nat.le_of_ble_eq_true rfl)
  rw [lg_entry_eq]
  generalize (lg_sl ([.ref b, .int (nI k)]) ++ List.replicate (2 - (lg_sl ([.ref b, .int (nI k)])).length) Slot.unset).toArray = ls at hl ⊢
  have hl : lv_has ls 2 [(0, .ref b), (1, .int (nI k))] := hl
  have fin : ∀ z : Int32, z = (if k < L then xs k else 15518993 * (nI k + 3) + 11171) → W p l e (headSpec wsL_cell ({ frames := 0, cells := 0, slots := 0, locals := 0 })).room s m ([.ref b, .int (nI k)] : List Value).toArray below meth c s.heap [] 0 0 (MQ below (vp_Si (fun v : Int32 => cellV L xs k = v)) ([.ref b, .int (nI k)] : List Value).toArray s 0 0 (fun _ => False)) (F0 m 22 ls [.int z]) := by
    intro z ez
    refine lv_ldc (v := 2147483647) hx hb hown w_0 dL_cell_22 ?_
    refine lv_iand hx hb dL_cell_24 ?_
    exact W.iret (v := (z &&& 2147483647)) hx hb hr (fun t ht hW => ⟨(z &&& 2147483647), rfl, by rw [ez]; rfl, ht⟩) (fun _ h => nomatch h) dL_cell_25
  refine lv_iload_n hx hb dL_cell_0 rfl (lv_at hl 1 rfl) ?_
  refine lv_aload_n hx hb dL_cell_1 rfl (lv_at hl 0 rfl) ?_
  refine va_slen hx hb hX hbl hbA hS dL_cell_2 ?_
  refine lv_icmp_ge (tgt := 12) hx hb dL_cell_3 (by decide) (fun c1 => ?_) (fun c1 => ?_)
  · have d1 : ¬ k < L := fun q => absurd c1 (nI_ge (a := k) (b := L) q (by omega))
    refine lv_ldc (v := 15518993) hx hb hown w_1 dL_cell_12 ?_
    refine lv_iload_n hx hb dL_cell_14 rfl (lv_at hl 1 rfl) ?_
    refine lv_iconst (v := 3) hx hb dL_cell_15 (by decide) ?_
    refine lv_iadd hx hb dL_cell_16 ?_
    refine lv_imul hx hb dL_cell_17 ?_
    refine lv_sipush (v := 11171) hx hb dL_cell_18 (by decide) ?_
    refine lv_iadd hx hb dL_cell_21 ?_
    exact fin _ (if_neg d1).symm
  · have d1 : k < L := (Nat.lt_or_ge k L).resolve_right (fun q => c1 (nI_le (a := L) (b := k) q (by omega)))
    refine lv_aload_n hx hb dL_cell_6 rfl (lv_at hl 0 rfl) ?_
    refine lv_iload_n hx hb dL_cell_7 rfl (lv_at hl 1 rfl) ?_
    refine va_sld hx hb hX hbl hbA hS (vp_in_nI d1 (by omega)) dL_cell_8 ?_
    refine lv_goto (tgt := 22) hx hb dL_cell_9 (by decide) ?_
    exact fin _ (by rw [nI_clamp (by omega), if_pos d1])
