/-! THE TEXT, THE SCRIPTS -/
theorem lp_cd {x m : Int32} {n : Nat} (hm : m.toInt < 1000) (h : ¬ m < x) (hμ : (m.toInt + 1 - x.toInt).toNat < n + 1) : (m.toInt + 1 - (x + 1).toInt).toNat < n := by
  have h1 := i_le.mp (Int32.not_lt.mp h)
  have h3 := i_lo x
  have e : (1 : Int32).toInt = 1 := by decide
  rw [i_add (by omega) (by omega), e]
  omega
theorem up_n2 {x m : Int32} (hm : m.toInt < 1000) (h : ¬ m < x) (h0 : 2 ≤ x.toInt) : 2 ≤ (x + 1).toInt := by
  have h1 := i_le.mp (Int32.not_lt.mp h)
  have e : (1 : Int32).toInt = 1 := by decide
  rw [i_add (by omega) (by omega), e]
  omega
theorem ne_2 {x : Int32} (h : 2 ≤ x.toInt) : ¬ x = 0 := by
  intro e; subst e; exact absurd h (by decide)
theorem sh_lt {a b : Int32} (h1 : ¬ a ≤ b) (h2 : ¬ 32 < a) : b.toInt < 1000 := by
  have h3 := i_lt.mp (Int32.not_le.mp h1)
  have h4 := i_le.mp (Int32.not_lt.mp h2)
  have e : (32 : Int32).toInt = 32 := by decide
  omega
def chr (x : Int32) : Prop := narrow .char (.int x) = .int x ∧ vp_nar .char x = x
def okT (tn : Int32) (tf : Nat → Int32) : Prop := 0 ≤ tn.toInt ∧ tn.toInt ≤ 120 ∧ ∀ j, chr (tf j)

def f_X1_succeeds (r : gR) (p1 : Int32) : Int32 × gR :=
    gLet ((p1 / 1000) - (p1 / 1000) / 100 * 100) (fun (v1 : Int32) =>
    gLet (p1 - p1 / 1000 * 1000) (fun (v2 : Int32) =>
      gLet (p1 - p1 / 100000 * 100000) (fun (v3 : Int32) =>
        gLet ((p1 / 100000)) (fun (v4 : Int32) =>
          if v4 = 1 then
            gLet (f_X3_doWrite r v1 v2) (fun (q9 : Int32 × gR) =>
              (q9.1, q9.2))
          else
            if v4 = 2 then
              gLet (f_X3_doHammer r v1 v2) (fun (q14 : Int32 × gR) =>
                (q14.1, q14.2))
            else
              if v4 = 3 then
                gLet (f_X3_doAll r v3) (fun (q19 : Int32 × gR) =>
                  (q19.1, q19.2))
              else
                if v4 = 4 then
                  gLet (v3 - v3 / 10 * 10) (fun (v21 : Int32) =>
                    if v21 = 0 then
                      gLet ((v3 / 10) - (v3 / 10) / 1000 * 1000) (fun (v23 : Int32) =>
                        gLet (f_X3_doSet r (v3 / 10000) v23) (fun (q27 : Int32 × gR) =>
                          if q27.1 = 0 then
                            (0, q27.2)
                          else
                            (1, q27.2)))
                    else
                      (0, r))
                else
                  if v4 = 5 then
                    gLet (f_X3_hasLine r v1) (fun (v31 : Int32) =>
                      if v31 = 0 then
                        (0, r)
                      else
                        gLet (f_X3_valueOf r v1) (fun (v34 : Int32) =>
                          if v34 = v2 then
                            (1, r)
                          else
                            (0, r)))
                  else
                    if v4 = 6 then
                      gLet (f_X3_hasLine r v1) (fun (v38 : Int32) =>
                        if v38 = 0 then
                          (0, r)
                        else
                          gLet (f_X3_placeOf r v1) (fun (v41 : Int32) =>
                            if v41 = v2 then
                              (1, r)
                            else
                              (0, r)))
                    else
                      if v4 = 7 then
                        gLet (f_X3_hasPlace r v1) (fun (v45 : Int32) =>
                          if v45 = 0 then
                            (0, r)
                          else
                            gLet (f_X3_wearOf r v1) (fun (v48 : Int32) =>
                              if v2 < v48 then
                                (0, r)
                              else
                                (1, r)))
                      else
                        if v4 = 8 then
                          gLet (f_X3_exists r) (fun (v52 : Int32) =>
                            if v52 = 0 then
                              (0, r)
                            else
                              if (r 8) = 0 then
                                if v3 = 0 then
                                  (1, r)
                                else
                                  (0, r)
                              else
                                if v3 = 1 then
                                  (1, r)
                                else
                                  (0, r))
                        else
                          if v4 = 9 then
                            gLet (f_X3_exists r) (fun (v59 : Int32) =>
                              if v59 = 0 then
                                (0, r)
                              else
                                if v3 = (r 3) then
                                  (1, r)
                                else
                                  (0, r))
                          else
                            (0, r)))))
theorem f_X1_succeeds_s (r : gR) (p1 : Int32) : f_X1_succeeds r p1 =
    (gLet ((p1 / 1000) - (p1 / 1000) / 100 * 100) (fun (v1 : Int32) =>
    gLet (p1 - p1 / 1000 * 1000) (fun (v2 : Int32) =>
      gLet (p1 - p1 / 100000 * 100000) (fun (v3 : Int32) =>
        gLet ((p1 / 100000)) (fun (v4 : Int32) =>
          if v4 = 1 then
            gLet (f_X3_doWrite r v1 v2) (fun (q9 : Int32 × gR) =>
              (q9.1, q9.2))
          else
            if v4 = 2 then
              gLet (f_X3_doHammer r v1 v2) (fun (q14 : Int32 × gR) =>
                (q14.1, q14.2))
            else
              if v4 = 3 then
                gLet (f_X3_doAll r v3) (fun (q19 : Int32 × gR) =>
                  (q19.1, q19.2))
              else
                if v4 = 4 then
                  gLet (v3 - v3 / 10 * 10) (fun (v21 : Int32) =>
                    if v21 = 0 then
                      gLet ((v3 / 10) - (v3 / 10) / 1000 * 1000) (fun (v23 : Int32) =>
                        gLet (f_X3_doSet r (v3 / 10000) v23) (fun (q27 : Int32 × gR) =>
                          if q27.1 = 0 then
                            (0, q27.2)
                          else
                            (1, q27.2)))
                    else
                      (0, r))
                else
                  if v4 = 5 then
                    gLet (f_X3_hasLine r v1) (fun (v31 : Int32) =>
                      if v31 = 0 then
                        (0, r)
                      else
                        gLet (f_X3_valueOf r v1) (fun (v34 : Int32) =>
                          if v34 = v2 then
                            (1, r)
                          else
                            (0, r)))
                  else
                    if v4 = 6 then
                      gLet (f_X3_hasLine r v1) (fun (v38 : Int32) =>
                        if v38 = 0 then
                          (0, r)
                        else
                          gLet (f_X3_placeOf r v1) (fun (v41 : Int32) =>
                            if v41 = v2 then
                              (1, r)
                            else
                              (0, r)))
                    else
                      if v4 = 7 then
                        gLet (f_X3_hasPlace r v1) (fun (v45 : Int32) =>
                          if v45 = 0 then
                            (0, r)
                          else
                            gLet (f_X3_wearOf r v1) (fun (v48 : Int32) =>
                              if v2 < v48 then
                                (0, r)
                              else
                                (1, r)))
                      else
                        if v4 = 8 then
                          gLet (f_X3_exists r) (fun (v52 : Int32) =>
                            if v52 = 0 then
                              (0, r)
                            else
                              if (r 8) = 0 then
                                if v3 = 0 then
                                  (1, r)
                                else
                                  (0, r)
                              else
                                if v3 = 1 then
                                  (1, r)
                                else
                                  (0, r))
                        else
                          if v4 = 9 then
                            gLet (f_X3_exists r) (fun (v59 : Int32) =>
                              if v59 = 0 then
                                (0, r)
                              else
                                if v3 = (r 3) then
                                  (1, r)
                                else
                                  (0, r))
                          else
                            (0, r)))))) := rfl
theorem bo_X1_succeeds (r : gR) (p1 : Int32) : (f_X1_succeeds r p1).1 = 0 ∨ (f_X1_succeeds r p1).1 = 1 := by
  unfold f_X1_succeeds
  refine gLet_i (P := fun z : Int32 × gR => z.1 = 0 ∨ z.1 = 1) (fun v1 ev1 => ?_)
  refine gLet_i (P := fun z : Int32 × gR => z.1 = 0 ∨ z.1 = 1) (fun v2 ev2 => ?_)
  refine gLet_i (P := fun z : Int32 × gR => z.1 = 0 ∨ z.1 = 1) (fun v3 ev3 => ?_)
  refine gLet_i (P := fun z : Int32 × gR => z.1 = 0 ∨ z.1 = 1) (fun v4 ev4 => ?_)
  refine gIf_i (P := fun z : Int32 × gR => z.1 = 0 ∨ z.1 = 1) (fun _ => ?_) (fun _ => ?_)
  · refine gLet_i (P := fun z : Int32 × gR => z.1 = 0 ∨ z.1 = 1) (fun q9 eq9 => ?_)
    rw [← eq9]; exact bo_X3_doWrite _ _ _
  · refine gIf_i (P := fun z : Int32 × gR => z.1 = 0 ∨ z.1 = 1) (fun _ => ?_) (fun _ => ?_)
    · refine gLet_i (P := fun z : Int32 × gR => z.1 = 0 ∨ z.1 = 1) (fun q14 eq14 => ?_)
      rw [← eq14]; exact bo_X3_doHammer _ _ _
    · refine gIf_i (P := fun z : Int32 × gR => z.1 = 0 ∨ z.1 = 1) (fun _ => ?_) (fun _ => ?_)
      · refine gLet_i (P := fun z : Int32 × gR => z.1 = 0 ∨ z.1 = 1) (fun q19 eq19 => ?_)
        rw [← eq19]; exact bo_X3_doAll _ _
      · refine gIf_i (P := fun z : Int32 × gR => z.1 = 0 ∨ z.1 = 1) (fun _ => ?_) (fun _ => ?_)
        · refine gLet_i (P := fun z : Int32 × gR => z.1 = 0 ∨ z.1 = 1) (fun v21 ev21 => ?_)
          refine gIf_i (P := fun z : Int32 × gR => z.1 = 0 ∨ z.1 = 1) (fun _ => ?_) (fun _ => ?_)
          · refine gLet_i (P := fun z : Int32 × gR => z.1 = 0 ∨ z.1 = 1) (fun v23 ev23 => ?_)
            refine gLet_i (P := fun z : Int32 × gR => z.1 = 0 ∨ z.1 = 1) (fun q27 eq27 => ?_)
            refine gIf_i (P := fun z : Int32 × gR => z.1 = 0 ∨ z.1 = 1) (fun _ => ?_) (fun _ => ?_)
            · exact Or.inl rfl
            · exact Or.inr rfl
          · exact Or.inl rfl
        · refine gIf_i (P := fun z : Int32 × gR => z.1 = 0 ∨ z.1 = 1) (fun _ => ?_) (fun _ => ?_)
          · refine gLet_i (P := fun z : Int32 × gR => z.1 = 0 ∨ z.1 = 1) (fun v31 ev31 => ?_)
            refine gIf_i (P := fun z : Int32 × gR => z.1 = 0 ∨ z.1 = 1) (fun _ => ?_) (fun _ => ?_)
            · exact Or.inl rfl
            · refine gLet_i (P := fun z : Int32 × gR => z.1 = 0 ∨ z.1 = 1) (fun v34 ev34 => ?_)
              refine gIf_i (P := fun z : Int32 × gR => z.1 = 0 ∨ z.1 = 1) (fun _ => ?_) (fun _ => ?_)
              · exact Or.inr rfl
              · exact Or.inl rfl
          · refine gIf_i (P := fun z : Int32 × gR => z.1 = 0 ∨ z.1 = 1) (fun _ => ?_) (fun _ => ?_)
            · refine gLet_i (P := fun z : Int32 × gR => z.1 = 0 ∨ z.1 = 1) (fun v38 ev38 => ?_)
              refine gIf_i (P := fun z : Int32 × gR => z.1 = 0 ∨ z.1 = 1) (fun _ => ?_) (fun _ => ?_)
              · exact Or.inl rfl
              · refine gLet_i (P := fun z : Int32 × gR => z.1 = 0 ∨ z.1 = 1) (fun v41 ev41 => ?_)
                refine gIf_i (P := fun z : Int32 × gR => z.1 = 0 ∨ z.1 = 1) (fun _ => ?_) (fun _ => ?_)
                · exact Or.inr rfl
                · exact Or.inl rfl
            · refine gIf_i (P := fun z : Int32 × gR => z.1 = 0 ∨ z.1 = 1) (fun _ => ?_) (fun _ => ?_)
              · refine gLet_i (P := fun z : Int32 × gR => z.1 = 0 ∨ z.1 = 1) (fun v45 ev45 => ?_)
                refine gIf_i (P := fun z : Int32 × gR => z.1 = 0 ∨ z.1 = 1) (fun _ => ?_) (fun _ => ?_)
                · exact Or.inl rfl
                · refine gLet_i (P := fun z : Int32 × gR => z.1 = 0 ∨ z.1 = 1) (fun v48 ev48 => ?_)
                  refine gIf_i (P := fun z : Int32 × gR => z.1 = 0 ∨ z.1 = 1) (fun _ => ?_) (fun _ => ?_)
                  · exact Or.inl rfl
                  · exact Or.inr rfl
              · refine gIf_i (P := fun z : Int32 × gR => z.1 = 0 ∨ z.1 = 1) (fun _ => ?_) (fun _ => ?_)
                · refine gLet_i (P := fun z : Int32 × gR => z.1 = 0 ∨ z.1 = 1) (fun v52 ev52 => ?_)
                  refine gIf_i (P := fun z : Int32 × gR => z.1 = 0 ∨ z.1 = 1) (fun _ => ?_) (fun _ => ?_)
                  · exact Or.inl rfl
                  · refine gIf_i (P := fun z : Int32 × gR => z.1 = 0 ∨ z.1 = 1) (fun _ => ?_) (fun _ => ?_)
                    · refine gIf_i (P := fun z : Int32 × gR => z.1 = 0 ∨ z.1 = 1) (fun _ => ?_) (fun _ => ?_)
                      · exact Or.inr rfl
                      · exact Or.inl rfl
                    · refine gIf_i (P := fun z : Int32 × gR => z.1 = 0 ∨ z.1 = 1) (fun _ => ?_) (fun _ => ?_)
                      · exact Or.inr rfl
                      · exact Or.inl rfl
                · refine gIf_i (P := fun z : Int32 × gR => z.1 = 0 ∨ z.1 = 1) (fun _ => ?_) (fun _ => ?_)
                  · refine gLet_i (P := fun z : Int32 × gR => z.1 = 0 ∨ z.1 = 1) (fun v59 ev59 => ?_)
                    refine gIf_i (P := fun z : Int32 × gR => z.1 = 0 ∨ z.1 = 1) (fun _ => ?_) (fun _ => ?_)
                    · exact Or.inl rfl
                    · refine gIf_i (P := fun z : Int32 × gR => z.1 = 0 ∨ z.1 = 1) (fun _ => ?_) (fun _ => ?_)
                      · exact Or.inr rfl
                      · exact Or.inl rfl
                  · exact Or.inl rfl
theorem hd_X1_succeeds : yX1_succeeds.cls ≠ "java/lang/invoke/MethodHandle" ∧ yX1_succeeds.cls ≠ "java/lang/invoke/VarHandle" ∧ (parseMethodDescriptor yX1_succeeds.desc).map (fun d => d.parameters.length) = some 2 := by decide +kernel
set_option maxHeartbeats 4000000 in
set_option maxRecDepth 100000 in
theorem c_X1_succeeds (l : Launch) (D : va_G) (y : Nat → ClassId) (a0 a1 a2 : Nat) (zh : Nat) (r : gR) (p1 : Int32) (ho : okC r) : Met l yX1_succeeds wsX1_succeeds ({ frames := 5, cells := 0, slots := 0, locals := 112 }) (gP D y [.ref a0, .int p1] zh [(a0, soF a1 a2 r), (a1, soV y r), (a2, soW y r)]) (va_Qi (fun (v : Int32) (u : gR) => f_X1_succeeds r p1 = (v, u)) (fun (u : gR) t => va_P D vwCl [(a0, soF a1 a2 u), (a1, soV y u), (a2, soW y u)] t.heap ∧ va_D (va_A [(a0, soF a1 a2 r), (a1, soV y r), (a2, soW y r)] zh) [(a0, soF a1 a2 u), (a1, soV y u), (a2, soW y u)]) (va_A [(a0, soF a1 a2 r), (a1, soV y r), (a2, soW y r)] zh)) 0 0 (va_A [(a0, soF a1 a2 r), (a1, soV y r), (a2, soW y r)] zh) := by
  refine Met.ofW (cc := cX1_succeeds) (maxL := 5) (ret := (some .boolean)) (by decide) rfl ?_
  intro p e s m args below meth c s₁ B hml hv
  obtain ⟨rfl, hsz, hP, hE, hD⟩ := hv
  have hx := B.exec
  have hb := B.bytes
  have hr := B.returns
  have hts := atoms_spec (ws := wsX1_succeeds) B.pre
  have hown : s.vm.findClass RX1 = some m.cls := findClass_of_methodNamed B.named
  have hlocks := B.notSynchronized
  have w_0 := hts (.constant RX1 7 (100000)) (List.mem_cons_of_mem _ (List.mem_append_left _ (List.mem_append_left _ (List.mem_of_getElem? (i := 0) rfl))))
  have w_1 := hts (.fieldLink RX1 44 "GapLines$State" "dead" "Z") (List.mem_cons_of_mem _ (List.mem_append_left _ (List.mem_append_left _ (List.mem_of_getElem? (i := 1) rfl))))
  have hi3 : ∀ w ∈ u_ws RX3 TX3 15, w ∈ wsX1_succeeds := fun w h => (List.mem_cons_of_mem _ (List.mem_append_right _ h))
  have w_3 := hts (.fieldLink RX1 48 "GapLines$State" "gap" "I") (List.mem_cons_of_mem _ (List.mem_append_left _ (List.mem_append_left _ (List.mem_of_getElem? (i := 2) rfl))))
  subst hsz
  have hD := hD.self (sz := s.heap.size)
  generalize hAe : va_A [(a0, soF a1 a2 r), (a1, soV y r), (a2, soW y r)] s.heap.size = A at hD ⊢
  have hA : ∀ q : Nat, s.heap.size ≤ q → A q := fun q h => by rw [← hAe]; exact Or.inr h
  have hS : va_S A s.heap s.heap [] := va_S.rf
  have hl := lv_entry ([.ref a0, .int p1]) (n := 5) (Nat.le_of_ble_eq_true rfl)
  rw [lg_entry_eq]
  generalize (lg_sl ([.ref a0, .int p1]) ++ List.replicate (5 - (lg_sl ([.ref a0, .int p1])).length) Slot.unset).toArray = ls at hl ⊢
  have hl : lv_has ls 5 [(0, .ref a0), (1, .int p1)] := hl
  have hF := f_X1_succeeds_s r p1
  refine lv_iload_n hx hb dX1_succeeds_0 rfl (lv_at hl 1 rfl) ?_
  refine lv_sipush (v := 1000) hx hb dX1_succeeds_1 (by decide) ?_
  refine lv_idiv hx hb dX1_succeeds_4 (by decide) ?_
  refine lv_bipush (v := 100) hx hb dX1_succeeds_5 (by decide) ?_
  refine lv_irem hx hb dX1_succeeds_7 (by decide) ?_
  obtain ⟨v1, ev1⟩ : ∃ z : Int32, (p1 / 1000) - (p1 / 1000) / 100 * 100 = z := ⟨_, rfl⟩
  rw [ev1]
  have hF := hF.trans (gLet_e ev1)
  refine lv_istore_n (lv' := [(2, .int v1), (0, .ref a0), (1, .int p1)]) hx hb dX1_succeeds_8 rfl hl (by decide) rfl (fun ls hl => ?_)
  refine lv_iload_n hx hb dX1_succeeds_9 rfl (lv_at hl 2 rfl) ?_
  refine lv_sipush (v := 1000) hx hb dX1_succeeds_10 (by decide) ?_
  refine lv_irem hx hb dX1_succeeds_13 (by decide) ?_
  obtain ⟨v2, ev2⟩ : ∃ z : Int32, p1 - p1 / 1000 * 1000 = z := ⟨_, rfl⟩
  rw [ev2]
  have hF := hF.trans (gLet_e ev2)
  refine lv_istore_n (lv' := [(3, .int v2), (2, .int v1), (0, .ref a0), (1, .int p1)]) hx hb dX1_succeeds_14 rfl hl (by decide) rfl (fun ls hl => ?_)
  refine lv_iload_n hx hb dX1_succeeds_15 rfl (lv_at hl 3 rfl) ?_
  refine lv_ldc (v := 100000) hx hb hown w_0 dX1_succeeds_16 ?_
  refine lv_irem hx hb dX1_succeeds_18 (by decide) ?_
  obtain ⟨v3, ev3⟩ : ∃ z : Int32, p1 - p1 / 100000 * 100000 = z := ⟨_, rfl⟩
  rw [ev3]
  have hF := hF.trans (gLet_e ev3)
  refine lv_istore (lv' := [(4, .int v3), (3, .int v2), (2, .int v1), (0, .ref a0), (1, .int p1)]) hx hb dX1_succeeds_19 hl (by decide) rfl (fun ls hl => ?_)
  refine lv_iload_n hx hb dX1_succeeds_21 rfl (lv_at hl 4 rfl) ?_
  refine lv_ldc (v := 100000) hx hb hown w_0 dX1_succeeds_22 ?_
  refine lv_idiv hx hb dX1_succeeds_24 (by decide) ?_
  obtain ⟨v4, ev4⟩ : ∃ z : Int32, (p1 / 100000) = z := ⟨_, rfl⟩
  rw [ev4]
  have hF := hF.trans (gLet_e ev4)
  by_cases c_5 : v4 = 1
  · have hF := hF.trans (if_pos c_5)
    refine lv_tableIn (off := 51) (tgt := 76) hx hb dX1_succeeds_25 (by rw [c_5]; decide) (by rw [c_5]; decide) (by rw [c_5]; rfl) (by decide) ?_
    refine lv_aload_n hx hb dX1_succeeds_76 rfl (lv_at hl 3 rfl) ?_
    refine lv_iload_n hx hb dX1_succeeds_77 rfl (lv_at hl 2 rfl) ?_
    refine lv_iload_n hx hb dX1_succeeds_78 rfl (lv_at hl 1 rfl) ?_
    refine xw_calli (va_runV (As := [.int v1, .int v2]) (rest := []) ⟨hx, hb, hml, hown, hts⟩ (c_X3_doWrite l D y a0 a1 a2 s.heap.size r v1 v2 ho) (cwV 2 hts gX1_succeeds_X3_doWrite rfl rfl rfl hd_X3_doWrite ⟨Nat.le_of_ble_eq_true rfl, Nat.le_of_ble_eq_true rfl⟩) (gV (q := (RX3, TX3, 15)) hE hP hD 0 rfl rfl) rfl rfl hl.1 rfl (lv_room (Nat.le_of_ble_eq_true rfl)) dX1_succeeds_79 ⟨Nat.le_of_ble_eq_true rfl, Nat.le_of_ble_eq_true rfl⟩) hP hD hS hA [0, 1, 2] rfl (by decide) (fun _ => rfl) (fun v8 u7 H locs h6 hP hD hS => ?_)
    obtain ⟨q9, eq9⟩ : ∃ z : Int32 × gR, f_X3_doWrite r v1 v2 = z := ⟨_, rfl⟩
    obtain ⟨rfl, rfl⟩ : q9.1 = v8 ∧ q9.2 = u7 := ⟨by rw [← eq9, h6], by rw [← eq9, h6]⟩
    have hF := hF.trans (gLet_e eq9)
    have hP : va_P D vwCl [(a0, soF a1 a2 q9.2), (a1, soV y q9.2), (a2, soW y q9.2)] H := hP
    have hD : va_D A [(a0, soF a1 a2 q9.2), (a1, soV y q9.2), (a2, soW y q9.2)] := hD
    exact W.zret (v := q9.1) hx hb hr (bo_nar (bo_X3_doWrite _ _ _) (congrArg Prod.fst eq9)) (fun t ht hW => ⟨⟨q9.1, q9.2, rfl, hF, ⟨by rw [ht]; exact hP, hD⟩⟩, hS.F ht⟩) hS.2.2 dX1_succeeds_82
  · have hF := hF.trans (if_neg c_5)
    by_cases c_10 : v4 = 2
    · have hF := hF.trans (if_pos c_10)
      refine lv_tableIn (off := 58) (tgt := 83) hx hb dX1_succeeds_25 (by rw [c_10]; decide) (by rw [c_10]; decide) (by rw [c_10]; rfl) (by decide) ?_
      refine lv_aload_n hx hb dX1_succeeds_83 rfl (lv_at hl 3 rfl) ?_
      refine lv_iload_n hx hb dX1_succeeds_84 rfl (lv_at hl 2 rfl) ?_
      refine lv_iload_n hx hb dX1_succeeds_85 rfl (lv_at hl 1 rfl) ?_
      refine xw_calli (va_runV (As := [.int v1, .int v2]) (rest := []) ⟨hx, hb, hml, hown, hts⟩ (c_X3_doHammer l D y a0 a1 a2 s.heap.size r v1 v2 ho) (cwV 2 hts gX1_succeeds_X3_doHammer rfl rfl rfl hd_X3_doHammer ⟨Nat.le_of_ble_eq_true rfl, Nat.le_of_ble_eq_true rfl⟩) (gV (q := (RX3, TX3, 15)) hE hP hD 0 rfl rfl) rfl rfl hl.1 rfl (lv_room (Nat.le_of_ble_eq_true rfl)) dX1_succeeds_86 ⟨Nat.le_of_ble_eq_true rfl, Nat.le_of_ble_eq_true rfl⟩) hP hD hS hA [0, 1, 2] rfl (by decide) (fun _ => rfl) (fun v13 u12 H locs h11 hP hD hS => ?_)
      obtain ⟨q14, eq14⟩ : ∃ z : Int32 × gR, f_X3_doHammer r v1 v2 = z := ⟨_, rfl⟩
      obtain ⟨rfl, rfl⟩ : q14.1 = v13 ∧ q14.2 = u12 := ⟨by rw [← eq14, h11], by rw [← eq14, h11]⟩
      have hF := hF.trans (gLet_e eq14)
      have hP : va_P D vwCl [(a0, soF a1 a2 q14.2), (a1, soV y q14.2), (a2, soW y q14.2)] H := hP
      have hD : va_D A [(a0, soF a1 a2 q14.2), (a1, soV y q14.2), (a2, soW y q14.2)] := hD
      exact W.zret (v := q14.1) hx hb hr (bo_nar (bo_X3_doHammer _ _ _) (congrArg Prod.fst eq14)) (fun t ht hW => ⟨⟨q14.1, q14.2, rfl, hF, ⟨by rw [ht]; exact hP, hD⟩⟩, hS.F ht⟩) hS.2.2 dX1_succeeds_89
    · have hF := hF.trans (if_neg c_10)
      by_cases c_15 : v4 = 3
      · have hF := hF.trans (if_pos c_15)
        refine lv_tableIn (off := 65) (tgt := 90) hx hb dX1_succeeds_25 (by rw [c_15]; decide) (by rw [c_15]; decide) (by rw [c_15]; rfl) (by decide) ?_
        refine lv_aload_n hx hb dX1_succeeds_90 rfl (lv_at hl 3 rfl) ?_
        refine lv_iload hx hb dX1_succeeds_91 (lv_at hl 0 rfl) ?_
        refine xw_calli (va_runV (As := [.int v3]) (rest := []) ⟨hx, hb, hml, hown, hts⟩ (c_X3_doAll l D y a0 a1 a2 s.heap.size r v3 ho) (cwV 1 hts gX1_succeeds_X3_doAll rfl rfl rfl hd_X3_doAll ⟨Nat.le_of_ble_eq_true rfl, Nat.le_of_ble_eq_true rfl⟩) (gV (q := (RX3, TX3, 15)) hE hP hD 0 rfl rfl) rfl rfl hl.1 rfl (lv_room (Nat.le_of_ble_eq_true rfl)) dX1_succeeds_93 ⟨Nat.le_of_ble_eq_true rfl, Nat.le_of_ble_eq_true rfl⟩) hP hD hS hA [0, 1, 2] rfl (by decide) (fun _ => rfl) (fun v18 u17 H locs h16 hP hD hS => ?_)
        obtain ⟨q19, eq19⟩ : ∃ z : Int32 × gR, f_X3_doAll r v3 = z := ⟨_, rfl⟩
        obtain ⟨rfl, rfl⟩ : q19.1 = v18 ∧ q19.2 = u17 := ⟨by rw [← eq19, h16], by rw [← eq19, h16]⟩
        have hF := hF.trans (gLet_e eq19)
        have hP : va_P D vwCl [(a0, soF a1 a2 q19.2), (a1, soV y q19.2), (a2, soW y q19.2)] H := hP
        have hD : va_D A [(a0, soF a1 a2 q19.2), (a1, soV y q19.2), (a2, soW y q19.2)] := hD
        exact W.zret (v := q19.1) hx hb hr (bo_nar (bo_X3_doAll _ _) (congrArg Prod.fst eq19)) (fun t ht hW => ⟨⟨q19.1, q19.2, rfl, hF, ⟨by rw [ht]; exact hP, hD⟩⟩, hS.F ht⟩) hS.2.2 dX1_succeeds_96
      · have hF := hF.trans (if_neg c_15)
        by_cases c_20 : v4 = 4
        · have hF := hF.trans (if_pos c_20)
          refine lv_tableIn (off := 72) (tgt := 97) hx hb dX1_succeeds_25 (by rw [c_20]; decide) (by rw [c_20]; decide) (by rw [c_20]; rfl) (by decide) ?_
          refine lv_iload hx hb dX1_succeeds_97 (lv_at hl 0 rfl) ?_
          refine lv_bipush (v := 10) hx hb dX1_succeeds_99 (by decide) ?_
          refine lv_irem hx hb dX1_succeeds_101 (by decide) ?_
          obtain ⟨v21, ev21⟩ : ∃ z : Int32, v3 - v3 / 10 * 10 = z := ⟨_, rfl⟩
          rw [ev21]
          have hF := hF.trans (gLet_e ev21)
          refine lv_if_ne (tgt := 131) hx hb dX1_succeeds_102 (by decide) (fun c_22 => ?_) (fun c_22 => ?_)
          · have hF := hF.trans (if_neg c_22)
            refine lv_iconst (v := 0) hx hb dX1_succeeds_131 (by decide) ?_
            exact W.zret (v := 0) hx hb hr rfl (fun t ht hW => ⟨⟨0, r, rfl, hF, ⟨by rw [ht]; exact hP, hD⟩⟩, hS.F ht⟩) hS.2.2 dX1_succeeds_132
          · have hF := hF.trans (if_pos c_22)
            refine lv_aload_n hx hb dX1_succeeds_105 rfl (lv_at hl 3 rfl) ?_
            refine lv_iload hx hb dX1_succeeds_106 (lv_at hl 0 rfl) ?_
            refine lv_sipush (v := 10000) hx hb dX1_succeeds_108 (by decide) ?_
            refine lv_idiv hx hb dX1_succeeds_111 (by decide) ?_
            refine lv_iload hx hb dX1_succeeds_112 (lv_at hl 0 rfl) ?_
            refine lv_bipush (v := 10) hx hb dX1_succeeds_114 (by decide) ?_
            refine lv_idiv hx hb dX1_succeeds_116 (by decide) ?_
            refine lv_sipush (v := 1000) hx hb dX1_succeeds_117 (by decide) ?_
            refine lv_irem hx hb dX1_succeeds_120 (by decide) ?_
            obtain ⟨v23, ev23⟩ : ∃ z : Int32, (v3 / 10) - (v3 / 10) / 1000 * 1000 = z := ⟨_, rfl⟩
            rw [ev23]
            have hF := hF.trans (gLet_e ev23)
            refine xw_calli (va_runV (As := [.int (v3 / 10000), .int v23]) (rest := []) ⟨hx, hb, hml, hown, hts⟩ (c_X3_doSet l D y a0 a1 a2 s.heap.size r (v3 / 10000) v23) (cwV 2 hts gX1_succeeds_X3_doSet rfl rfl rfl hd_X3_doSet ⟨Nat.le_of_ble_eq_true rfl, Nat.le_of_ble_eq_true rfl⟩) (gV (q := (RX3, TX3, 15)) hE hP hD 0 rfl rfl) rfl rfl hl.1 rfl (lv_room (Nat.le_of_ble_eq_true rfl)) dX1_succeeds_121 ⟨Nat.le_of_ble_eq_true rfl, Nat.le_of_ble_eq_true rfl⟩) hP hD hS hA [0, 1, 2] rfl (by decide) (fun _ => rfl) (fun v26 u25 H locs h24 hP hD hS => ?_)
            obtain ⟨q27, eq27⟩ : ∃ z : Int32 × gR, f_X3_doSet r (v3 / 10000) v23 = z := ⟨_, rfl⟩
            obtain ⟨rfl, rfl⟩ : q27.1 = v26 ∧ q27.2 = u25 := ⟨by rw [← eq27, h24], by rw [← eq27, h24]⟩
            have hF := hF.trans (gLet_e eq27)
            have hP : va_P D vwCl [(a0, soF a1 a2 q27.2), (a1, soV y q27.2), (a2, soW y q27.2)] H := hP
            have hD : va_D A [(a0, soF a1 a2 q27.2), (a1, soV y q27.2), (a2, soW y q27.2)] := hD
            refine lv_if_eq (tgt := 131) hx hb dX1_succeeds_124 (by decide) (fun c_28 => ?_) (fun c_28 => ?_)
            · have hF := hF.trans (if_pos c_28)
              refine lv_iconst (v := 0) hx hb dX1_succeeds_131 (by decide) ?_
              exact W.zret (v := 0) hx hb hr rfl (fun t ht hW => ⟨⟨0, q27.2, rfl, hF, ⟨by rw [ht]; exact hP, hD⟩⟩, hS.F ht⟩) hS.2.2 dX1_succeeds_132
            · have hF := hF.trans (if_neg c_28)
              refine lv_iconst (v := 1) hx hb dX1_succeeds_127 (by decide) ?_
              refine lv_goto (tgt := 132) hx hb dX1_succeeds_128 (by decide) ?_
              exact W.zret (v := 1) hx hb hr rfl (fun t ht hW => ⟨⟨1, q27.2, rfl, hF, ⟨by rw [ht]; exact hP, hD⟩⟩, hS.F ht⟩) hS.2.2 dX1_succeeds_132
        · have hF := hF.trans (if_neg c_20)
          by_cases c_29 : v4 = 5
          · have hF := hF.trans (if_pos c_29)
            refine lv_tableIn (off := 108) (tgt := 133) hx hb dX1_succeeds_25 (by rw [c_29]; decide) (by rw [c_29]; decide) (by rw [c_29]; rfl) (by decide) ?_
            refine lv_aload_n hx hb dX1_succeeds_133 rfl (lv_at hl 3 rfl) ?_
            refine lv_iload_n hx hb dX1_succeeds_134 rfl (lv_at hl 2 rfl) ?_
            refine xs_calli (va_runV (As := [.int v1]) (rest := []) ⟨hx, hb, hml, hown, hts⟩ (c_X3_hasLine l D y a0 a1 a2 s.heap.size r v1) (cwV 1 hts gX1_succeeds_X3_hasLine rfl rfl rfl hd_X3_hasLine ⟨Nat.le_of_ble_eq_true rfl, Nat.le_of_ble_eq_true rfl⟩) (gV (q := (RX3, TX3, 15)) hE hP hD 0 rfl rfl) rfl rfl hl.1 rfl (lv_room (Nat.le_of_ble_eq_true rfl)) dX1_succeeds_135 ⟨Nat.le_of_ble_eq_true rfl, Nat.le_of_ble_eq_true rfl⟩) (fun v31 h30 => ?_)
            have hF := hF.trans (gLet_e h30)
            refine lv_if_eq (tgt := 154) hx hb dX1_succeeds_138 (by decide) (fun c_32 => ?_) (fun c_32 => ?_)
            · have hF := hF.trans (if_pos c_32)
              refine lv_iconst (v := 0) hx hb dX1_succeeds_154 (by decide) ?_
              exact W.zret (v := 0) hx hb hr rfl (fun t ht hW => ⟨⟨0, r, rfl, hF, ⟨by rw [ht]; exact hP, hD⟩⟩, hS.F ht⟩) hS.2.2 dX1_succeeds_155
            · have hF := hF.trans (if_neg c_32)
              refine lv_aload_n hx hb dX1_succeeds_141 rfl (lv_at hl 3 rfl) ?_
              refine lv_iload_n hx hb dX1_succeeds_142 rfl (lv_at hl 2 rfl) ?_
              refine xs_calli (va_runV (As := [.int v1]) (rest := []) ⟨hx, hb, hml, hown, hts⟩ (c_X3_valueOf l D y a0 a1 a2 s.heap.size r v1 ho) (cwV 1 hts gX1_succeeds_X3_valueOf rfl rfl rfl hd_X3_valueOf ⟨Nat.le_of_ble_eq_true rfl, Nat.le_of_ble_eq_true rfl⟩) (gV (q := (RX3, TX3, 15)) hE hP hD 0 rfl rfl) rfl rfl hl.1 rfl (lv_room (Nat.le_of_ble_eq_true rfl)) dX1_succeeds_143 ⟨Nat.le_of_ble_eq_true rfl, Nat.le_of_ble_eq_true rfl⟩) (fun v34 h33 => ?_)
              have hF := hF.trans (gLet_e h33)
              refine lv_iload_n hx hb dX1_succeeds_146 rfl (lv_at hl 1 rfl) ?_
              refine lv_icmp_ne (tgt := 154) hx hb dX1_succeeds_147 (by decide) (fun c_35 => ?_) (fun c_35 => ?_)
              · have hF := hF.trans (if_neg c_35)
                refine lv_iconst (v := 0) hx hb dX1_succeeds_154 (by decide) ?_
                exact W.zret (v := 0) hx hb hr rfl (fun t ht hW => ⟨⟨0, r, rfl, hF, ⟨by rw [ht]; exact hP, hD⟩⟩, hS.F ht⟩) hS.2.2 dX1_succeeds_155
              · have hF := hF.trans (if_pos c_35)
                refine lv_iconst (v := 1) hx hb dX1_succeeds_150 (by decide) ?_
                refine lv_goto (tgt := 155) hx hb dX1_succeeds_151 (by decide) ?_
                exact W.zret (v := 1) hx hb hr rfl (fun t ht hW => ⟨⟨1, r, rfl, hF, ⟨by rw [ht]; exact hP, hD⟩⟩, hS.F ht⟩) hS.2.2 dX1_succeeds_155
          · have hF := hF.trans (if_neg c_29)
            by_cases c_36 : v4 = 6
            · have hF := hF.trans (if_pos c_36)
              refine lv_tableIn (off := 131) (tgt := 156) hx hb dX1_succeeds_25 (by rw [c_36]; decide) (by rw [c_36]; decide) (by rw [c_36]; rfl) (by decide) ?_
              refine lv_aload_n hx hb dX1_succeeds_156 rfl (lv_at hl 3 rfl) ?_
              refine lv_iload_n hx hb dX1_succeeds_157 rfl (lv_at hl 2 rfl) ?_
              refine xs_calli (va_runV (As := [.int v1]) (rest := []) ⟨hx, hb, hml, hown, hts⟩ (c_X3_hasLine l D y a0 a1 a2 s.heap.size r v1) (cwV 1 hts gX1_succeeds_X3_hasLine rfl rfl rfl hd_X3_hasLine ⟨Nat.le_of_ble_eq_true rfl, Nat.le_of_ble_eq_true rfl⟩) (gV (q := (RX3, TX3, 15)) hE hP hD 0 rfl rfl) rfl rfl hl.1 rfl (lv_room (Nat.le_of_ble_eq_true rfl)) dX1_succeeds_158 ⟨Nat.le_of_ble_eq_true rfl, Nat.le_of_ble_eq_true rfl⟩) (fun v38 h37 => ?_)
              have hF := hF.trans (gLet_e h37)
              refine lv_if_eq (tgt := 177) hx hb dX1_succeeds_161 (by decide) (fun c_39 => ?_) (fun c_39 => ?_)
              · have hF := hF.trans (if_pos c_39)
                refine lv_iconst (v := 0) hx hb dX1_succeeds_177 (by decide) ?_
                exact W.zret (v := 0) hx hb hr rfl (fun t ht hW => ⟨⟨0, r, rfl, hF, ⟨by rw [ht]; exact hP, hD⟩⟩, hS.F ht⟩) hS.2.2 dX1_succeeds_178
              · have hF := hF.trans (if_neg c_39)
                refine lv_aload_n hx hb dX1_succeeds_164 rfl (lv_at hl 3 rfl) ?_
                refine lv_iload_n hx hb dX1_succeeds_165 rfl (lv_at hl 2 rfl) ?_
                refine xs_calli (va_runV (As := [.int v1]) (rest := []) ⟨hx, hb, hml, hown, hts⟩ (c_X3_placeOf l D y a0 a1 a2 s.heap.size r v1) (cwV 1 hts gX1_succeeds_X3_placeOf rfl rfl rfl hd_X3_placeOf ⟨Nat.le_of_ble_eq_true rfl, Nat.le_of_ble_eq_true rfl⟩) (gV (q := (RX3, TX3, 15)) hE hP hD 0 rfl rfl) rfl rfl hl.1 rfl (lv_room (Nat.le_of_ble_eq_true rfl)) dX1_succeeds_166 ⟨Nat.le_of_ble_eq_true rfl, Nat.le_of_ble_eq_true rfl⟩) (fun v41 h40 => ?_)
                have hF := hF.trans (gLet_e h40)
                refine lv_iload_n hx hb dX1_succeeds_169 rfl (lv_at hl 1 rfl) ?_
                refine lv_icmp_ne (tgt := 177) hx hb dX1_succeeds_170 (by decide) (fun c_42 => ?_) (fun c_42 => ?_)
                · have hF := hF.trans (if_neg c_42)
                  refine lv_iconst (v := 0) hx hb dX1_succeeds_177 (by decide) ?_
                  exact W.zret (v := 0) hx hb hr rfl (fun t ht hW => ⟨⟨0, r, rfl, hF, ⟨by rw [ht]; exact hP, hD⟩⟩, hS.F ht⟩) hS.2.2 dX1_succeeds_178
                · have hF := hF.trans (if_pos c_42)
                  refine lv_iconst (v := 1) hx hb dX1_succeeds_173 (by decide) ?_
                  refine lv_goto (tgt := 178) hx hb dX1_succeeds_174 (by decide) ?_
                  exact W.zret (v := 1) hx hb hr rfl (fun t ht hW => ⟨⟨1, r, rfl, hF, ⟨by rw [ht]; exact hP, hD⟩⟩, hS.F ht⟩) hS.2.2 dX1_succeeds_178
            · have hF := hF.trans (if_neg c_36)
              by_cases c_43 : v4 = 7
              · have hF := hF.trans (if_pos c_43)
                refine lv_tableIn (off := 154) (tgt := 179) hx hb dX1_succeeds_25 (by rw [c_43]; decide) (by rw [c_43]; decide) (by rw [c_43]; rfl) (by decide) ?_
                refine lv_aload_n hx hb dX1_succeeds_179 rfl (lv_at hl 3 rfl) ?_
                refine lv_iload_n hx hb dX1_succeeds_180 rfl (lv_at hl 2 rfl) ?_
                refine xs_calli (va_runV (As := [.int v1]) (rest := []) ⟨hx, hb, hml, hown, hts⟩ (c_X3_hasPlace l D y a0 a1 a2 s.heap.size r v1) (cwV 1 hts gX1_succeeds_X3_hasPlace rfl rfl rfl hd_X3_hasPlace ⟨Nat.le_of_ble_eq_true rfl, Nat.le_of_ble_eq_true rfl⟩) (gV (q := (RX3, TX3, 15)) hE hP hD 0 rfl rfl) rfl rfl hl.1 rfl (lv_room (Nat.le_of_ble_eq_true rfl)) dX1_succeeds_181 ⟨Nat.le_of_ble_eq_true rfl, Nat.le_of_ble_eq_true rfl⟩) (fun v45 h44 => ?_)
                have hF := hF.trans (gLet_e h44)
                refine lv_if_eq (tgt := 200) hx hb dX1_succeeds_184 (by decide) (fun c_46 => ?_) (fun c_46 => ?_)
                · have hF := hF.trans (if_pos c_46)
                  refine lv_iconst (v := 0) hx hb dX1_succeeds_200 (by decide) ?_
                  exact W.zret (v := 0) hx hb hr rfl (fun t ht hW => ⟨⟨0, r, rfl, hF, ⟨by rw [ht]; exact hP, hD⟩⟩, hS.F ht⟩) hS.2.2 dX1_succeeds_201
                · have hF := hF.trans (if_neg c_46)
                  refine lv_aload_n hx hb dX1_succeeds_187 rfl (lv_at hl 3 rfl) ?_
                  refine lv_iload_n hx hb dX1_succeeds_188 rfl (lv_at hl 2 rfl) ?_
                  refine xs_calli (va_runV (As := [.int v1]) (rest := []) ⟨hx, hb, hml, hown, hts⟩ (c_X3_wearOf l D y a0 a1 a2 s.heap.size r v1 ho) (cwV 1 hts gX1_succeeds_X3_wearOf rfl rfl rfl hd_X3_wearOf ⟨Nat.le_of_ble_eq_true rfl, Nat.le_of_ble_eq_true rfl⟩) (gV (q := (RX3, TX3, 15)) hE hP hD 0 rfl rfl) rfl rfl hl.1 rfl (lv_room (Nat.le_of_ble_eq_true rfl)) dX1_succeeds_189 ⟨Nat.le_of_ble_eq_true rfl, Nat.le_of_ble_eq_true rfl⟩) (fun v48 h47 => ?_)
                  have hF := hF.trans (gLet_e h47)
                  refine lv_iload_n hx hb dX1_succeeds_192 rfl (lv_at hl 1 rfl) ?_
                  refine lv_icmp_gt (tgt := 200) hx hb dX1_succeeds_193 (by decide) (fun c_49 => ?_) (fun c_49 => ?_)
                  · have hF := hF.trans (if_pos c_49)
                    refine lv_iconst (v := 0) hx hb dX1_succeeds_200 (by decide) ?_
                    exact W.zret (v := 0) hx hb hr rfl (fun t ht hW => ⟨⟨0, r, rfl, hF, ⟨by rw [ht]; exact hP, hD⟩⟩, hS.F ht⟩) hS.2.2 dX1_succeeds_201
                  · have hF := hF.trans (if_neg c_49)
                    refine lv_iconst (v := 1) hx hb dX1_succeeds_196 (by decide) ?_
                    refine lv_goto (tgt := 201) hx hb dX1_succeeds_197 (by decide) ?_
                    exact W.zret (v := 1) hx hb hr rfl (fun t ht hW => ⟨⟨1, r, rfl, hF, ⟨by rw [ht]; exact hP, hD⟩⟩, hS.F ht⟩) hS.2.2 dX1_succeeds_201
              · have hF := hF.trans (if_neg c_43)
                by_cases c_50 : v4 = 8
                · have hF := hF.trans (if_pos c_50)
                  refine lv_tableIn (off := 177) (tgt := 202) hx hb dX1_succeeds_25 (by rw [c_50]; decide) (by rw [c_50]; decide) (by rw [c_50]; rfl) (by decide) ?_
                  refine lv_aload_n hx hb dX1_succeeds_202 rfl (lv_at hl 3 rfl) ?_
                  refine xs_calli (va_runV (As := []) (rest := []) ⟨hx, hb, hml, hown, hts⟩ (c_X3_exists l D y a0 a1 a2 s.heap.size r) (cwV 0 hts gX1_succeeds_X3_exists rfl rfl rfl hd_X3_exists ⟨Nat.le_of_ble_eq_true rfl, Nat.le_of_ble_eq_true rfl⟩) (gV (q := (RX3, TX3, 15)) hE hP hD 0 rfl rfl) rfl rfl hl.1 rfl (lv_room (Nat.le_of_ble_eq_true rfl)) dX1_succeeds_203 ⟨Nat.le_of_ble_eq_true rfl, Nat.le_of_ble_eq_true rfl⟩) (fun v52 h51 => ?_)
                  have hF := hF.trans (gLet_e h51)
                  refine lv_if_eq (tgt := 230) hx hb dX1_succeeds_206 (by decide) (fun c_53 => ?_) (fun c_53 => ?_)
                  · have hF := hF.trans (if_pos c_53)
                    refine lv_iconst (v := 0) hx hb dX1_succeeds_230 (by decide) ?_
                    exact W.zret (v := 0) hx hb hr rfl (fun t ht hW => ⟨⟨0, r, rfl, hF, ⟨by rw [ht]; exact hP, hD⟩⟩, hS.F ht⟩) hS.2.2 dX1_succeeds_231
                  · have hF := hF.trans (if_neg c_53)
                    refine lv_iload hx hb dX1_succeeds_209 (lv_at hl 0 rfl) ?_
                    refine lv_aload_n hx hb dX1_succeeds_211 rfl (lv_at hl 3 rfl) ?_
                    refine va_get (D := D) (ci := 2) (v := .int (r 8)) (C := RX3) (T := TX3) (N := 15) hx hb hts hi3 hown hE.1 hP 0 rfl rfl 10 (by decide) w_1 (fun _ h9 => h9) rfl dX1_succeeds_212 ?_
                    refine lv_if_eq (tgt := 222) hx hb dX1_succeeds_215 (by decide) (fun c_54 => ?_) (fun c_54 => ?_)
                    · have hF := hF.trans (if_pos c_54)
                      refine lv_iconst (v := 0) hx hb dX1_succeeds_222 (by decide) ?_
                      refine lv_icmp_ne (tgt := 230) hx hb dX1_succeeds_223 (by decide) (fun c_55 => ?_) (fun c_55 => ?_)
                      · have hF := hF.trans (if_neg c_55)
                        refine lv_iconst (v := 0) hx hb dX1_succeeds_230 (by decide) ?_
                        exact W.zret (v := 0) hx hb hr rfl (fun t ht hW => ⟨⟨0, r, rfl, hF, ⟨by rw [ht]; exact hP, hD⟩⟩, hS.F ht⟩) hS.2.2 dX1_succeeds_231
                      · have hF := hF.trans (if_pos c_55)
                        refine lv_iconst (v := 1) hx hb dX1_succeeds_226 (by decide) ?_
                        refine lv_goto (tgt := 231) hx hb dX1_succeeds_227 (by decide) ?_
                        exact W.zret (v := 1) hx hb hr rfl (fun t ht hW => ⟨⟨1, r, rfl, hF, ⟨by rw [ht]; exact hP, hD⟩⟩, hS.F ht⟩) hS.2.2 dX1_succeeds_231
                    · have hF := hF.trans (if_neg c_54)
                      refine lv_iconst (v := 1) hx hb dX1_succeeds_218 (by decide) ?_
                      refine lv_goto (tgt := 223) hx hb dX1_succeeds_219 (by decide) ?_
                      refine lv_icmp_ne (tgt := 230) hx hb dX1_succeeds_223 (by decide) (fun c_56 => ?_) (fun c_56 => ?_)
                      · have hF := hF.trans (if_neg c_56)
                        refine lv_iconst (v := 0) hx hb dX1_succeeds_230 (by decide) ?_
                        exact W.zret (v := 0) hx hb hr rfl (fun t ht hW => ⟨⟨0, r, rfl, hF, ⟨by rw [ht]; exact hP, hD⟩⟩, hS.F ht⟩) hS.2.2 dX1_succeeds_231
                      · have hF := hF.trans (if_pos c_56)
                        refine lv_iconst (v := 1) hx hb dX1_succeeds_226 (by decide) ?_
                        refine lv_goto (tgt := 231) hx hb dX1_succeeds_227 (by decide) ?_
                        exact W.zret (v := 1) hx hb hr rfl (fun t ht hW => ⟨⟨1, r, rfl, hF, ⟨by rw [ht]; exact hP, hD⟩⟩, hS.F ht⟩) hS.2.2 dX1_succeeds_231
                · have hF := hF.trans (if_neg c_50)
                  by_cases c_57 : v4 = 9
                  · have hF := hF.trans (if_pos c_57)
                    refine lv_tableIn (off := 207) (tgt := 232) hx hb dX1_succeeds_25 (by rw [c_57]; decide) (by rw [c_57]; decide) (by rw [c_57]; rfl) (by decide) ?_
                    refine lv_aload_n hx hb dX1_succeeds_232 rfl (lv_at hl 3 rfl) ?_
                    refine xs_calli (va_runV (As := []) (rest := []) ⟨hx, hb, hml, hown, hts⟩ (c_X3_exists l D y a0 a1 a2 s.heap.size r) (cwV 0 hts gX1_succeeds_X3_exists rfl rfl rfl hd_X3_exists ⟨Nat.le_of_ble_eq_true rfl, Nat.le_of_ble_eq_true rfl⟩) (gV (q := (RX3, TX3, 15)) hE hP hD 0 rfl rfl) rfl rfl hl.1 rfl (lv_room (Nat.le_of_ble_eq_true rfl)) dX1_succeeds_233 ⟨Nat.le_of_ble_eq_true rfl, Nat.le_of_ble_eq_true rfl⟩) (fun v59 h58 => ?_)
                    have hF := hF.trans (gLet_e h58)
                    refine lv_if_eq (tgt := 252) hx hb dX1_succeeds_236 (by decide) (fun c_60 => ?_) (fun c_60 => ?_)
                    · have hF := hF.trans (if_pos c_60)
                      refine lv_iconst (v := 0) hx hb dX1_succeeds_252 (by decide) ?_
                      exact W.zret (v := 0) hx hb hr rfl (fun t ht hW => ⟨⟨0, r, rfl, hF, ⟨by rw [ht]; exact hP, hD⟩⟩, hS.F ht⟩) hS.2.2 dX1_succeeds_253
                    · have hF := hF.trans (if_neg c_60)
                      refine lv_iload hx hb dX1_succeeds_239 (lv_at hl 0 rfl) ?_
                      refine lv_aload_n hx hb dX1_succeeds_241 rfl (lv_at hl 3 rfl) ?_
                      refine va_get (D := D) (ci := 2) (v := .int (r 3)) (C := RX3) (T := TX3) (N := 15) hx hb hts hi3 hown hE.1 hP 0 rfl rfl 3 (by decide) w_3 (fun _ h9 => h9) rfl dX1_succeeds_242 ?_
                      refine lv_icmp_ne (tgt := 252) hx hb dX1_succeeds_245 (by decide) (fun c_61 => ?_) (fun c_61 => ?_)
                      · have hF := hF.trans (if_neg c_61)
                        refine lv_iconst (v := 0) hx hb dX1_succeeds_252 (by decide) ?_
                        exact W.zret (v := 0) hx hb hr rfl (fun t ht hW => ⟨⟨0, r, rfl, hF, ⟨by rw [ht]; exact hP, hD⟩⟩, hS.F ht⟩) hS.2.2 dX1_succeeds_253
                      · have hF := hF.trans (if_pos c_61)
                        refine lv_iconst (v := 1) hx hb dX1_succeeds_248 (by decide) ?_
                        refine lv_goto (tgt := 253) hx hb dX1_succeeds_249 (by decide) ?_
                        exact W.zret (v := 1) hx hb hr rfl (fun t ht hW => ⟨⟨1, r, rfl, hF, ⟨by rw [ht]; exact hP, hD⟩⟩, hS.F ht⟩) hS.2.2 dX1_succeeds_253
                  · have hF := hF.trans (if_neg c_57)
                    refine lv_tableOut (tgt := 254) hx hb dX1_succeeds_25 (by have q := And.intro trivial trivial; have q0 := sw_ne c_5 (n := 1) (by decide); have q1 := sw_ne c_10 (n := 2) (by decide); have q2 := sw_ne c_15 (n := 3) (by decide); have q3 := sw_ne c_20 (n := 4) (by decide); have q4 := sw_ne c_29 (n := 5) (by decide); have q5 := sw_ne c_36 (n := 6) (by decide); have q6 := sw_ne c_43 (n := 7) (by decide); have q7 := sw_ne c_50 (n := 8) (by decide); have q8 := sw_ne c_57 (n := 9) (by decide); omega) (by decide) ?_
                    refine lv_iconst (v := 0) hx hb dX1_succeeds_254 (by decide) ?_
                    exact W.zret (v := 0) hx hb hr rfl (fun t ht hW => ⟨⟨0, r, rfl, hF, ⟨by rw [ht]; exact hP, hD⟩⟩, hS.F ht⟩) hS.2.2 dX1_succeeds_255
