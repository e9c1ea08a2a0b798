def f_X6_readCommand (rf : Int32) (sz : Int32) (ac : Int32) (sp : Int32) (ou : Int32) (tx : Nat → Int32) (r : gR) : Int32 × gR × Int32 × Int32 :=
    gLet ((tx sp.toNatClampNeg)) (fun (v1 : Int32) =>
    if v1 = 97 then
      gLet (f_X6_figures rf sz ac (sp + 1) ou tx 0 1 1 9) (fun (q6 : Int32 × Int32) =>
        if q6.1 = (-1) then
          (0, r, q6.2, ou)
        else
          if (r 0) ≤ 0 then
            (1, r, q6.2, (ou + 1))
          else
            gLet (f_X6_allOn r (q6.1 * (r 0))) (fun (q16 : Int32 × gR) =>
              if q16.1 < 0 then
                (1, q16.2, q6.2, (ou + 1))
              else
                (1, q16.2, q6.2, (ou + 0))))
    else
      if v1 = 104 then
        gLet (f_X6_figures rf sz ac (sp + 1) ou tx 0 2 0 31) (fun (q30 : Int32 × Int32) =>
          gLet (f_X6_figures rf sz ac q30.2 ou tx q30.1 2 1 99) (fun (q34 : Int32 × Int32) =>
            if q34.1 = (-1) then
              (0, r, q34.2, ou)
            else
              gLet (f_X6_isLine r q30.1) (fun (v37 : Int32) =>
                if v37 = 0 then
                  (1, r, q34.2, (ou + 1))
                else
                  gLet (f_X6_hammerOn r q30.1 q34.1) (fun (q46 : Int32 × gR) =>
                    if q46.1 < 0 then
                      (1, q46.2, q34.2, (ou + 1))
                    else
                      (1, q46.2, q34.2, (ou + 0))))))
      else
        if v1 = 119 then
          gLet (f_X6_figures rf sz ac (sp + 1) ou tx 0 2 0 31) (fun (q60 : Int32 × Int32) =>
            gLet (f_X6_figures rf sz ac q60.2 ou tx q60.1 3 0 999) (fun (q64 : Int32 × Int32) =>
              if q64.1 = (-1) then
                (0, r, q64.2, ou)
              else
                gLet (f_X6_canWrite r q60.1) (fun (v67 : Int32) =>
                  if v67 = 0 then
                    (1, r, q64.2, (ou + 1))
                  else
                    gLet (f_X6_writeOn r q60.1 q64.1) (fun (q76 : Int32 × gR) =>
                      if q76.1 < 0 then
                        (1, q76.2, q64.2, (ou + 1))
                      else
                        (1, q76.2, q64.2, (ou + 0))))))
        else
          (0, r, ((sp + 1) - 1), ou))
theorem f_X6_readCommand_s (rf : Int32) (sz : Int32) (ac : Int32) (sp : Int32) (ou : Int32) (tx : Nat → Int32) (r : gR) : f_X6_readCommand rf sz ac sp ou tx r =
    (gLet ((tx sp.toNatClampNeg)) (fun (v1 : Int32) =>
    if v1 = 97 then
      gLet (f_X6_figures rf sz ac (sp + 1) ou tx 0 1 1 9) (fun (q6 : Int32 × Int32) =>
        if q6.1 = (-1) then
          (0, r, q6.2, ou)
        else
          if (r 0) ≤ 0 then
            (1, r, q6.2, (ou + 1))
          else
            gLet (f_X6_allOn r (q6.1 * (r 0))) (fun (q16 : Int32 × gR) =>
              if q16.1 < 0 then
                (1, q16.2, q6.2, (ou + 1))
              else
                (1, q16.2, q6.2, (ou + 0))))
    else
      if v1 = 104 then
        gLet (f_X6_figures rf sz ac (sp + 1) ou tx 0 2 0 31) (fun (q30 : Int32 × Int32) =>
          gLet (f_X6_figures rf sz ac q30.2 ou tx q30.1 2 1 99) (fun (q34 : Int32 × Int32) =>
            if q34.1 = (-1) then
              (0, r, q34.2, ou)
            else
              gLet (f_X6_isLine r q30.1) (fun (v37 : Int32) =>
                if v37 = 0 then
                  (1, r, q34.2, (ou + 1))
                else
                  gLet (f_X6_hammerOn r q30.1 q34.1) (fun (q46 : Int32 × gR) =>
                    if q46.1 < 0 then
                      (1, q46.2, q34.2, (ou + 1))
                    else
                      (1, q46.2, q34.2, (ou + 0))))))
      else
        if v1 = 119 then
          gLet (f_X6_figures rf sz ac (sp + 1) ou tx 0 2 0 31) (fun (q60 : Int32 × Int32) =>
            gLet (f_X6_figures rf sz ac q60.2 ou tx q60.1 3 0 999) (fun (q64 : Int32 × Int32) =>
              if q64.1 = (-1) then
                (0, r, q64.2, ou)
              else
                gLet (f_X6_canWrite r q60.1) (fun (v67 : Int32) =>
                  if v67 = 0 then
                    (1, r, q64.2, (ou + 1))
                  else
                    gLet (f_X6_writeOn r q60.1 q64.1) (fun (q76 : Int32 × gR) =>
                      if q76.1 < 0 then
                        (1, q76.2, q64.2, (ou + 1))
                      else
                        (1, q76.2, q64.2, (ou + 0))))))
        else
          (0, r, ((sp + 1) - 1), ou))) := rfl
theorem bo_X6_readCommand (rf : Int32) (sz : Int32) (ac : Int32) (sp : Int32) (ou : Int32) (tx : Nat → Int32) (r : gR) : (f_X6_readCommand rf sz ac sp ou tx r).1 = 0 ∨ (f_X6_readCommand rf sz ac sp ou tx r).1 = 1 := by
  unfold f_X6_readCommand
  refine gLet_i (P := fun z : Int32 × gR × Int32 × Int32 => z.1 = 0 ∨ z.1 = 1) (fun v1 ev1 => ?_)
  refine gIf_i (P := fun z : Int32 × gR × Int32 × Int32 => z.1 = 0 ∨ z.1 = 1) (fun _ => ?_) (fun _ => ?_)
  · refine gLet_i (P := fun z : Int32 × gR × Int32 × Int32 => z.1 = 0 ∨ z.1 = 1) (fun q6 eq6 => ?_)
    refine gIf_i (P := fun z : Int32 × gR × Int32 × Int32 => z.1 = 0 ∨ z.1 = 1) (fun _ => ?_) (fun _ => ?_)
    · exact Or.inl rfl
    · refine gIf_i (P := fun z : Int32 × gR × Int32 × Int32 => z.1 = 0 ∨ z.1 = 1) (fun _ => ?_) (fun _ => ?_)
      · exact Or.inr rfl
      · refine gLet_i (P := fun z : Int32 × gR × Int32 × Int32 => z.1 = 0 ∨ z.1 = 1) (fun q16 eq16 => ?_)
        refine gIf_i (P := fun z : Int32 × gR × Int32 × Int32 => z.1 = 0 ∨ z.1 = 1) (fun _ => ?_) (fun _ => ?_)
        · exact Or.inr rfl
        · exact Or.inr rfl
  · refine gIf_i (P := fun z : Int32 × gR × Int32 × Int32 => z.1 = 0 ∨ z.1 = 1) (fun _ => ?_) (fun _ => ?_)
    · refine gLet_i (P := fun z : Int32 × gR × Int32 × Int32 => z.1 = 0 ∨ z.1 = 1) (fun q30 eq30 => ?_)
      refine gLet_i (P := fun z : Int32 × gR × Int32 × Int32 => z.1 = 0 ∨ z.1 = 1) (fun q34 eq34 => ?_)
      refine gIf_i (P := fun z : Int32 × gR × Int32 × Int32 => z.1 = 0 ∨ z.1 = 1) (fun _ => ?_) (fun _ => ?_)
      · exact Or.inl rfl
      · refine gLet_i (P := fun z : Int32 × gR × Int32 × Int32 => z.1 = 0 ∨ z.1 = 1) (fun v37 ev37 => ?_)
        refine gIf_i (P := fun z : Int32 × gR × Int32 × Int32 => z.1 = 0 ∨ z.1 = 1) (fun _ => ?_) (fun _ => ?_)
        · exact Or.inr rfl
        · refine gLet_i (P := fun z : Int32 × gR × Int32 × Int32 => z.1 = 0 ∨ z.1 = 1) (fun q46 eq46 => ?_)
          refine gIf_i (P := fun z : Int32 × gR × Int32 × Int32 => z.1 = 0 ∨ z.1 = 1) (fun _ => ?_) (fun _ => ?_)
          · exact Or.inr rfl
          · exact Or.inr rfl
    · refine gIf_i (P := fun z : Int32 × gR × Int32 × Int32 => z.1 = 0 ∨ z.1 = 1) (fun _ => ?_) (fun _ => ?_)
      · refine gLet_i (P := fun z : Int32 × gR × Int32 × Int32 => z.1 = 0 ∨ z.1 = 1) (fun q60 eq60 => ?_)
        refine gLet_i (P := fun z : Int32 × gR × Int32 × Int32 => z.1 = 0 ∨ z.1 = 1) (fun q64 eq64 => ?_)
        refine gIf_i (P := fun z : Int32 × gR × Int32 × Int32 => z.1 = 0 ∨ z.1 = 1) (fun _ => ?_) (fun _ => ?_)
        · exact Or.inl rfl
        · refine gLet_i (P := fun z : Int32 × gR × Int32 × Int32 => z.1 = 0 ∨ z.1 = 1) (fun v67 ev67 => ?_)
          refine gIf_i (P := fun z : Int32 × gR × Int32 × Int32 => z.1 = 0 ∨ z.1 = 1) (fun _ => ?_) (fun _ => ?_)
          · exact Or.inr rfl
          · refine gLet_i (P := fun z : Int32 × gR × Int32 × Int32 => z.1 = 0 ∨ z.1 = 1) (fun q76 eq76 => ?_)
            refine gIf_i (P := fun z : Int32 × gR × Int32 × Int32 => z.1 = 0 ∨ z.1 = 1) (fun _ => ?_) (fun _ => ?_)
            · exact Or.inr rfl
            · exact Or.inr rfl
      · exact Or.inl rfl
theorem rc_up (rf sz ac sp ou : Int32) (tx : Nat → Int32) (r : gR) (hs : 0 ≤ sp.toInt) (hlt : ¬ sz ≤ sp) (on : okN r) : okN (f_X6_readCommand rf sz ac sp ou tx r).2.1 ∧ 0 ≤ (f_X6_readCommand rf sz ac sp ou tx r).2.2.1.toInt ∧ (¬ (f_X6_readCommand rf sz ac sp ou tx r).1 = 0 → sp.toInt < (f_X6_readCommand rf sz ac sp ou tx r).2.2.1.toInt) := by
  have e := i_up (Int32.not_le.mp hlt)
  have e1 : (1 : Int32).toInt = 1 := (by decide)
  unfold f_X6_readCommand
  refine gLet_i (P := fun z : Int32 × gR × Int32 × Int32 => okN z.2.1 ∧ 0 ≤ z.2.2.1.toInt ∧ (¬ z.1 = 0 → sp.toInt < z.2.2.1.toInt)) (fun v1 _ => ?_)
  refine gIf_i (P := fun z : Int32 × gR × Int32 × Int32 => okN z.2.1 ∧ 0 ≤ z.2.2.1.toInt ∧ (¬ z.1 = 0 → sp.toInt < z.2.2.1.toInt)) (fun _ => ?_) (fun _ => ?_)
  · refine gLet_i (P := fun z : Int32 × gR × Int32 × Int32 => okN z.2.1 ∧ 0 ≤ z.2.2.1.toInt ∧ (¬ z.1 = 0 → sp.toInt < z.2.2.1.toInt)) (fun q6 eq6 => ?_)
    have h6 : sp.toInt < q6.2.toInt := by rw [← eq6]; have := (fg_up rf sz ac (sp + 1) ou tx 0 1 1 9 (by omega)).1; omega
    have n6 : 0 ≤ q6.2.toInt := (by omega)
    refine gIf_i (P := fun z : Int32 × gR × Int32 × Int32 => okN z.2.1 ∧ 0 ≤ z.2.2.1.toInt ∧ (¬ z.1 = 0 → sp.toInt < z.2.2.1.toInt)) (fun _ => ⟨on, n6, fun c => absurd rfl c⟩) (fun _ => ?_)
    refine gIf_i (P := fun z : Int32 × gR × Int32 × Int32 => okN z.2.1 ∧ 0 ≤ z.2.2.1.toInt ∧ (¬ z.1 = 0 → sp.toInt < z.2.2.1.toInt)) (fun _ => ⟨on, n6, fun _ => h6⟩) (fun c => ?_)
    refine gLet_i (P := fun z : Int32 × gR × Int32 × Int32 => okN z.2.1 ∧ 0 ≤ z.2.2.1.toInt ∧ (¬ z.1 = 0 → sp.toInt < z.2.2.1.toInt)) (fun q16 eq16 => ?_)
    have h16 : okN q16.2 := by rw [← eq16]; exact okN_of (okM_X6_allOn _ _ (okM_of2 on c))
    exact gIf_i (P := fun z : Int32 × gR × Int32 × Int32 => okN z.2.1 ∧ 0 ≤ z.2.2.1.toInt ∧ (¬ z.1 = 0 → sp.toInt < z.2.2.1.toInt)) (fun _ => ⟨h16, n6, fun _ => h6⟩) (fun _ => ⟨h16, n6, fun _ => h6⟩)
  refine gIf_i (P := fun z : Int32 × gR × Int32 × Int32 => okN z.2.1 ∧ 0 ≤ z.2.2.1.toInt ∧ (¬ z.1 = 0 → sp.toInt < z.2.2.1.toInt)) (fun _ => ?_) (fun _ => ?_)
  · refine gLet_i (P := fun z : Int32 × gR × Int32 × Int32 => okN z.2.1 ∧ 0 ≤ z.2.2.1.toInt ∧ (¬ z.1 = 0 → sp.toInt < z.2.2.1.toInt)) (fun q6 eq6 => ?_)
    have h6 : sp.toInt < q6.2.toInt := by rw [← eq6]; have := (fg_up rf sz ac (sp + 1) ou tx 0 2 0 31 (by omega)).1; omega
    have n6 : 0 ≤ q6.2.toInt := (by omega)
    refine gLet_i (P := fun z : Int32 × gR × Int32 × Int32 => okN z.2.1 ∧ 0 ≤ z.2.2.1.toInt ∧ (¬ z.1 = 0 → sp.toInt < z.2.2.1.toInt)) (fun q7 eq7 => ?_)
    have h7 : sp.toInt < q7.2.toInt := by rw [← eq7]; have := (fg_up rf sz ac q6.2 ou tx q6.1 2 1 99 (by omega)).1; omega
    have n7 : 0 ≤ q7.2.toInt := (by omega)
    refine gIf_i (P := fun z : Int32 × gR × Int32 × Int32 => okN z.2.1 ∧ 0 ≤ z.2.2.1.toInt ∧ (¬ z.1 = 0 → sp.toInt < z.2.2.1.toInt)) (fun _ => ⟨on, n7, fun c => absurd rfl c⟩) (fun _ => ?_)
    refine gLet_i (P := fun z : Int32 × gR × Int32 × Int32 => okN z.2.1 ∧ 0 ≤ z.2.2.1.toInt ∧ (¬ z.1 = 0 → sp.toInt < z.2.2.1.toInt)) (fun v8 e8 => ?_)
    refine gIf_i (P := fun z : Int32 × gR × Int32 × Int32 => okN z.2.1 ∧ 0 ≤ z.2.2.1.toInt ∧ (¬ z.1 = 0 → sp.toInt < z.2.2.1.toInt)) (fun _ => ⟨on, n7, fun _ => h7⟩) (fun c => ?_)
    have hl := il_okL e8 c on.1
    refine gLet_i (P := fun z : Int32 × gR × Int32 × Int32 => okN z.2.1 ∧ 0 ≤ z.2.2.1.toInt ∧ (¬ z.1 = 0 → sp.toInt < z.2.2.1.toInt)) (fun q9 eq9 => ?_)
    have h9 : okN q9.2 := by rw [← eq9]; exact okN_of (okM_X6_hammerOn _ _ _ (okM_of on hl) hl)
    exact gIf_i (P := fun z : Int32 × gR × Int32 × Int32 => okN z.2.1 ∧ 0 ≤ z.2.2.1.toInt ∧ (¬ z.1 = 0 → sp.toInt < z.2.2.1.toInt)) (fun _ => ⟨h9, n7, fun _ => h7⟩) (fun _ => ⟨h9, n7, fun _ => h7⟩)
  refine gIf_i (P := fun z : Int32 × gR × Int32 × Int32 => okN z.2.1 ∧ 0 ≤ z.2.2.1.toInt ∧ (¬ z.1 = 0 → sp.toInt < z.2.2.1.toInt)) (fun _ => ?_) (fun _ => ?_)
  · refine gLet_i (P := fun z : Int32 × gR × Int32 × Int32 => okN z.2.1 ∧ 0 ≤ z.2.2.1.toInt ∧ (¬ z.1 = 0 → sp.toInt < z.2.2.1.toInt)) (fun q6 eq6 => ?_)
    have h6 : sp.toInt < q6.2.toInt := by rw [← eq6]; have := (fg_up rf sz ac (sp + 1) ou tx 0 2 0 31 (by omega)).1; omega
    have n6 : 0 ≤ q6.2.toInt := (by omega)
    refine gLet_i (P := fun z : Int32 × gR × Int32 × Int32 => okN z.2.1 ∧ 0 ≤ z.2.2.1.toInt ∧ (¬ z.1 = 0 → sp.toInt < z.2.2.1.toInt)) (fun q7 eq7 => ?_)
    have h7 : sp.toInt < q7.2.toInt := by rw [← eq7]; have := (fg_up rf sz ac q6.2 ou tx q6.1 3 0 999 (by omega)).1; omega
    have n7 : 0 ≤ q7.2.toInt := (by omega)
    refine gIf_i (P := fun z : Int32 × gR × Int32 × Int32 => okN z.2.1 ∧ 0 ≤ z.2.2.1.toInt ∧ (¬ z.1 = 0 → sp.toInt < z.2.2.1.toInt)) (fun _ => ⟨on, n7, fun c => absurd rfl c⟩) (fun _ => ?_)
    refine gLet_i (P := fun z : Int32 × gR × Int32 × Int32 => okN z.2.1 ∧ 0 ≤ z.2.2.1.toInt ∧ (¬ z.1 = 0 → sp.toInt < z.2.2.1.toInt)) (fun v8 e8 => ?_)
    refine gIf_i (P := fun z : Int32 × gR × Int32 × Int32 => okN z.2.1 ∧ 0 ≤ z.2.2.1.toInt ∧ (¬ z.1 = 0 → sp.toInt < z.2.2.1.toInt)) (fun _ => ⟨on, n7, fun _ => h7⟩) (fun c => ?_)
    have hl := cw_okL e8 c on.1
    refine gLet_i (P := fun z : Int32 × gR × Int32 × Int32 => okN z.2.1 ∧ 0 ≤ z.2.2.1.toInt ∧ (¬ z.1 = 0 → sp.toInt < z.2.2.1.toInt)) (fun q9 eq9 => ?_)
    have h9 : okN q9.2 := by rw [← eq9]; exact okN_of (okM_X6_writeOn _ _ _ (okM_of on hl) hl)
    exact gIf_i (P := fun z : Int32 × gR × Int32 × Int32 => okN z.2.1 ∧ 0 ≤ z.2.2.1.toInt ∧ (¬ z.1 = 0 → sp.toInt < z.2.2.1.toInt)) (fun _ => ⟨h9, n7, fun _ => h7⟩) (fun _ => ⟨h9, n7, fun _ => h7⟩)
  · refine ⟨on, ?_, fun c => absurd rfl c⟩
    show 0 ≤ ((sp + 1) - 1).toInt
    rw [i_sub (by have := i_hi (sp + 1); omega) (by have := i_hi (sp + 1); omega), e, e1]
    omega
theorem cm_n0 {a b c v : Int32} (h : f_X6_canMake a b c = v) (d : ¬ v = 0) : ¬ a = 0 := by
  intro e
  have := (cm_in h d).1
  rw [e] at this
  exact absurd this (by decide)
theorem sp_dec {sp sp2 sz : Int32} {n : Nat} (c : ¬ sz ≤ sp) (h : sp.toInt < sp2.toInt) (hμ : (sz.toInt - sp.toInt).toNat < n + 1) : (sz.toInt - sp2.toInt).toNat < n := by
  have := i_lt.mp (Int32.not_le.mp c)
  omega
theorem hd_X6_readCommand : yX6_readCommand.cls = RX6 ∧ yX6_readCommand.cls ≠ "java/lang/invoke/MethodHandle" ∧ yX6_readCommand.cls ≠ "java/lang/invoke/VarHandle" ∧ (parseMethodDescriptor yX6_readCommand.desc).map (fun d => d.parameters.length) = some 1 := by decide +kernel
set_option maxHeartbeats 4000000 in
set_option maxRecDepth 100000 in
theorem c_X6_readCommand (l : Launch) (D : va_G) (y : Nat → ClassId) (a0 a1 a2 a3 a4 a5 a6 a7 : Nat) (zh : Nat) (rf : Int32) (sz : Int32) (ac : Int32) (sp : Int32) (ou : Int32) (tx : Nat → Int32) (r : gR) (hs : 0 ≤ sp.toInt) (hlt : ¬ sz ≤ sp) (hz : sz.toInt ≤ 120) (on : okN r) : Met l yX6_readCommand wsX6_readCommand ({ frames := 4, cells := 0, slots := 0, locals := 91 }) (gP D y [.ref a0, .ref a7] zh [(a0, .inr (5, [.int rf, .ref a1, .int sz, .ref a2, .ref a3, .ref a4, .int ac, .ref a5, .ref a6, .int sp, .int ou])), (a1, .inl (y 0, 120, .inl tx)), (a7, .inl (y 0, 78, .inl r))]) (va_Qi (fun (v : Int32) (u : gR × Int32 × Int32) => f_X6_readCommand rf sz ac sp ou tx r = (v, u)) (fun (u : gR × Int32 × Int32) t => va_P D vwCl [(a0, .inr (5, [.int rf, .ref a1, .int sz, .ref a2, .ref a3, .ref a4, .int ac, .ref a5, .ref a6, .int u.2.1, .int u.2.2])), (a1, .inl (y 0, 120, .inl tx)), (a7, .inl (y 0, 78, .inl u.1))] t.heap ∧ va_D (va_A [(a0, .inr (5, [.int rf, .ref a1, .int sz, .ref a2, .ref a3, .ref a4, .int ac, .ref a5, .ref a6, .int sp, .int ou])), (a1, .inl (y 0, 120, .inl tx)), (a7, .inl (y 0, 78, .inl r))] zh) [(a0, .inr (5, [.int rf, .ref a1, .int sz, .ref a2, .ref a3, .ref a4, .int ac, .ref a5, .ref a6, .int u.2.1, .int u.2.2])), (a1, .inl (y 0, 120, .inl tx)), (a7, .inl (y 0, 78, .inl u.1))]) (va_A [(a0, .inr (5, [.int rf, .ref a1, .int sz, .ref a2, .ref a3, .ref a4, .int ac, .ref a5, .ref a6, .int sp, .int ou])), (a1, .inl (y 0, 120, .inl tx)), (a7, .inl (y 0, 78, .inl r))] zh)) 0 0 (va_A [(a0, .inr (5, [.int rf, .ref a1, .int sz, .ref a2, .ref a3, .ref a4, .int ac, .ref a5, .ref a6, .int sp, .int ou])), (a1, .inl (y 0, 120, .inl tx)), (a7, .inl (y 0, 78, .inl r))] zh) := by
  refine Met.ofW (cc := cX6_readCommand) (maxL := 5) (ret := (some .boolean)) (by decide) rfl ?_
  intro p e s m args below meth c s₁ B hml hv
  obtain ⟨rfl, hsz, hP, hE, hD⟩ := hv
  have hx := B.exec
  have hb := B.bytes
  have hr := B.returns
  have hts := atoms_spec (ws := wsX6_readCommand) B.pre
  have hown : s.vm.findClass RX6 = some m.cls := findClass_of_methodNamed B.named
  have hlocks := B.notSynchronized
  have w_0 := hts (.fieldLink RX6 7 "GapLinesModel" "text" "[I") (List.mem_cons_of_mem _ (List.mem_append_left _ (List.mem_append_left _ (List.mem_of_getElem? (i := 0) rfl))))
  have hi6 : ∀ w ∈ u_ws RX6 TX6 11, w ∈ wsX6_readCommand := fun w h => (List.mem_cons_of_mem _ (List.mem_append_right _ h))
  have w_2 := hts (.fieldLink RX6 87 "GapLinesModel" "spot" "I") (List.mem_cons_of_mem _ (List.mem_append_left _ (List.mem_append_left _ (List.mem_of_getElem? (i := 1) rfl))))
  subst hsz
  have hD := hD.self (sz := s.heap.size)
  generalize hAe : va_A [(a0, .inr (5, [.int rf, .ref a1, .int sz, .ref a2, .ref a3, .ref a4, .int ac, .ref a5, .ref a6, .int sp, .int ou])), (a1, .inl (y 0, 120, .inl tx)), (a7, .inl (y 0, 78, .inl r))] s.heap.size = A at hD ⊢
  have hA : ∀ q : Nat, s.heap.size ≤ q → A q := fun q h => by rw [← hAe]; exact Or.inr h
  have hS : va_S A s.heap s.heap [] := va_S.rf
  have hl := lv_entry ([.ref a0, .ref a7]) (n := 5) (Nat.le_of_ble_eq_true rfl)
  rw [lg_entry_eq]
  generalize (lg_sl ([.ref a0, .ref a7]) ++ List.replicate (5 - (lg_sl ([.ref a0, .ref a7])).length) Slot.unset).toArray = ls at hl ⊢
  have hl : lv_has ls 5 [(0, .ref a0), (1, .ref a7)] := hl
  have hF := f_X6_readCommand_s rf sz ac sp ou tx r
  refine lv_aload_n hx hb dX6_readCommand_0 rfl (lv_at hl 0 rfl) ?_
  refine va_get (D := D) (ci := 5) (v := .ref a1) (C := RX6) (T := TX6) (N := 11) hx hb hts hi6 hown hE.1 hP 0 rfl rfl 1 (by decide) w_0 (fun _ h9 => h9) rfl dX6_readCommand_1 ?_
  refine lv_aload_n hx hb dX6_readCommand_4 rfl (lv_at hl 0 rfl) ?_
  refine va_get (D := D) (ci := 5) (v := .int sp) (C := RX6) (T := TX6) (N := 11) hx hb hts hi6 hown hE.1 hP 0 rfl rfl 9 (by decide) w_2 (fun _ h9 => h9) rfl dX6_readCommand_5 ?_
  refine xa_iald (k := sp.toNatClampNeg) (v := tx sp.toNatClampNeg) hx hb hE.1 hP 1 0 rfl rfl (ix_btL hs hlt hz) rfl rfl dX6_readCommand_8 ?_
  refine lv_istore_n (lv' := [(2, .int (tx sp.toNatClampNeg)), (0, .ref a0), (1, .ref a7)]) hx hb dX6_readCommand_9 rfl hl (by decide) rfl (fun ls hl => ?_)
  refine lv_aload_n hx hb dX6_readCommand_10 rfl (lv_at hl 1 rfl) ?_
  refine lv_dup hx hb dX6_readCommand_11 rfl ?_
  refine va_get (D := D) (ci := 5) (v := .int sp) (C := RX6) (T := TX6) (N := 11) hx hb hts hi6 hown hE.1 hP 0 rfl rfl 9 (by decide) w_2 (fun _ h9 => h9) rfl dX6_readCommand_12 ?_
  refine lv_iconst (v := 1) hx hb dX6_readCommand_15 (by decide) ?_
  refine lv_iadd hx hb dX6_readCommand_16 ?_
  refine va_put (D := D) (ci := 5) (v := .int (sp + 1)) (ty := .int) (C := RX6) (T := TX6) (N := 11) hx hb hts hi6 tyX6 tyX6_ok nmX6 hown hE.1 hP hD hS 0 rfl rfl 9 (by decide) w_2 (fun _ h9 => h9) rfl (by decide +kernel) rfl rfl (Nat.le_of_ble_eq_true rfl) dX6_readCommand_17 (fun H locs hP hD hS => ?_)
  have hP : va_P D vwCl [(a0, .inr (5, [.int rf, .ref a1, .int sz, .ref a2, .ref a3, .ref a4, .int ac, .ref a5, .ref a6, .int (sp + 1), .int ou])), (a1, .inl (y 0, 120, .inl tx)), (a7, .inl (y 0, 78, .inl r))] H := hP
  have hD : va_D A [(a0, .inr (5, [.int rf, .ref a1, .int sz, .ref a2, .ref a3, .ref a4, .int ac, .ref a5, .ref a6, .int (sp + 1), .int ou])), (a1, .inl (y 0, 120, .inl tx)), (a7, .inl (y 0, 78, .inl r))] := hD
  refine lv_iload_n hx hb dX6_readCommand_20 rfl (lv_at hl 0 rfl) ?_
  obtain ⟨v1, ev1⟩ : ∃ z : Int32, (tx sp.toNatClampNeg) = z := ⟨_, rfl⟩
  rw [ev1]
  have hF := hF.trans (gLet_e ev1)
  by_cases c_2 : v1 = 97
  · have hF := hF.trans (if_pos c_2)
    refine lv_lookup (off := 162) (tgt := 183) hx hb dX6_readCommand_21 (by decide) (by rw [c_2]; decide) (by decide) ?_
    refine lv_aload_n hx hb dX6_readCommand_183 rfl (lv_at hl 1 rfl) ?_
    refine lv_iconst (v := 0) hx hb dX6_readCommand_184 (by decide) ?_
    refine lv_iconst (v := 1) hx hb dX6_readCommand_185 (by decide) ?_
    refine lv_iconst (v := 1) hx hb dX6_readCommand_186 (by decide) ?_
    refine lv_bipush (v := 9) hx hb dX6_readCommand_187 (by decide) ?_
    refine xw_calli (va_runV (As := [.int 0, .int 1, .int 1, .int 9]) (rest := []) ⟨hx, hb, hml, hown, hts⟩ (c_X6_figures l D y a0 a1 a2 a3 a4 a5 a6 H.size rf sz ac (sp + 1) ou tx 0 1 1 9 (up_nn2 hlt hs) hz) (cwV 4 hts gX6_readCommand_X6_figures rfl rfl rfl hd_X6_figures ⟨Nat.le_of_ble_eq_true rfl, Nat.le_of_ble_eq_true rfl⟩) (gV (q := (RX6, TX6, 11)) hE (hP.sub [0, 1] rfl) (hD.sub [0, 1] (by decide) rfl) 0 rfl rfl) rfl rfl hl.1 rfl (lv_room (Nat.le_of_ble_eq_true rfl)) dX6_readCommand_189 ⟨Nat.le_of_ble_eq_true rfl, Nat.le_of_ble_eq_true rfl⟩) hP hD hS hA [0, 1] rfl (by decide) (fun _ => rfl) (fun v5 u4 H locs h3 hP hD hS => ?_)
    obtain ⟨q6, eq6⟩ : ∃ z : Int32 × Int32, f_X6_figures rf sz ac (sp + 1) ou tx 0 1 1 9 = z := ⟨_, rfl⟩
    obtain ⟨rfl, rfl⟩ : q6.1 = v5 ∧ q6.2 = u4 := ⟨by rw [← eq6, h3], by rw [← eq6, h3]⟩
    have hF := hF.trans (gLet_e eq6)
    have hP : va_P D vwCl [(a0, .inr (5, [.int rf, .ref a1, .int sz, .ref a2, .ref a3, .ref a4, .int ac, .ref a5, .ref a6, .int q6.2, .int ou])), (a1, .inl (y 0, 120, .inl tx)), (a7, .inl (y 0, 78, .inl r))] H := hP
    have hD : va_D A [(a0, .inr (5, [.int rf, .ref a1, .int sz, .ref a2, .ref a3, .ref a4, .int ac, .ref a5, .ref a6, .int q6.2, .int ou])), (a1, .inl (y 0, 120, .inl tx)), (a7, .inl (y 0, 78, .inl r))] := hD
    refine lv_istore_n (lv' := [(3, .int q6.1), (2, .int (tx sp.toNatClampNeg)), (0, .ref a0), (1, .ref a7)]) hx hb dX6_readCommand_192 rfl hl (by decide) rfl (fun ls hl => ?_)
    refine lv_iload_n hx hb dX6_readCommand_193 rfl (lv_at hl 0 rfl) ?_
    refine lv_iconst (v := (-1)) hx hb dX6_readCommand_194 (by decide) ?_
    refine lv_icmp_eq (tgt := 232) hx hb dX6_readCommand_195 (by decide) (fun c_7 => ?_) (fun c_7 => ?_)
    · have hF := hF.trans (if_pos c_7)
      refine lv_iconst (v := 0) hx hb dX6_readCommand_232 (by decide) ?_
      exact W.zret (v := 0) hx hb hr rfl (fun t ht hW => ⟨⟨0, ⟨r, q6.2, ou⟩, rfl, hF, ⟨by rw [ht]; exact hP, hD⟩⟩, hS.F ht⟩) hS.2.2 dX6_readCommand_233
    · have hF := hF.trans (if_neg c_7)
      refine lv_aload_n hx hb dX6_readCommand_198 rfl (lv_at hl 2 rfl) ?_
      refine lv_aload_n hx hb dX6_readCommand_199 rfl (lv_at hl 3 rfl) ?_
      refine lv_iconst (v := 0) hx hb dX6_readCommand_200 (by decide) ?_
      refine xa_iald (k := 0) (v := r 0) hx hb hE.1 hP 2 0 rfl rfl (xin (by decide)) rfl rfl dX6_readCommand_201 ?_
      refine lv_if_le (tgt := 221) hx hb dX6_readCommand_202 (by decide) (fun c_8 => ?_) (fun c_8 => ?_)
      · have hF := hF.trans (if_pos c_8)
        refine lv_iconst (v := 0) hx hb dX6_readCommand_221 (by decide) ?_
        refine xw_calli (va_runV (As := [.int 0]) (rest := []) ⟨hx, hb, hml, hown, hts⟩ (c_X6_done l D y a0 a1 a2 a3 a4 a5 a6 H.size rf sz ac q6.2 ou 0) (cwV 1 hts gX6_readCommand_X6_done rfl rfl rfl hd_X6_done ⟨Nat.le_of_ble_eq_true rfl, Nat.le_of_ble_eq_true rfl⟩) (gV (q := (RX6, TX6, 11)) hE (hP.sub [0] rfl) (hD.sub [0] (by decide) rfl) 0 rfl rfl) rfl rfl hl.1 rfl (lv_room (Nat.le_of_ble_eq_true rfl)) dX6_readCommand_222 ⟨Nat.le_of_ble_eq_true rfl, Nat.le_of_ble_eq_true rfl⟩) hP hD hS hA [0] rfl (by decide) (fun _ => rfl) (fun v11 u10 H locs h9 hP hD hS => ?_)
        have h9 := (dn0 rf sz ac q6.2 ou).symm.trans h9
        obtain ⟨rfl, rfl⟩ := Prod.mk.inj h9
        have hP : va_P D vwCl [(a0, .inr (5, [.int rf, .ref a1, .int sz, .ref a2, .ref a3, .ref a4, .int ac, .ref a5, .ref a6, .int q6.2, .int (ou + 1)])), (a1, .inl (y 0, 120, .inl tx)), (a7, .inl (y 0, 78, .inl r))] H := hP
        have hD : va_D A [(a0, .inr (5, [.int rf, .ref a1, .int sz, .ref a2, .ref a3, .ref a4, .int ac, .ref a5, .ref a6, .int q6.2, .int (ou + 1)])), (a1, .inl (y 0, 120, .inl tx)), (a7, .inl (y 0, 78, .inl r))] := hD
        refine lv_if_eq (tgt := 232) hx hb dX6_readCommand_225 (by decide) (fun c_12 => absurd c_12 (by decide)) (fun c_12 => ?_)
        refine lv_iconst (v := 1) hx hb dX6_readCommand_228 (by decide) ?_
        refine lv_goto (tgt := 233) hx hb dX6_readCommand_229 (by decide) ?_
        exact W.zret (v := 1) hx hb hr rfl (fun t ht hW => ⟨⟨1, ⟨r, q6.2, (ou + 1)⟩, rfl, hF, ⟨by rw [ht]; exact hP, hD⟩⟩, hS.F ht⟩) hS.2.2 dX6_readCommand_233
      · have hF := hF.trans (if_neg c_8)
        refine lv_aload_n hx hb dX6_readCommand_205 rfl (lv_at hl 3 rfl) ?_
        refine lv_iload_n hx hb dX6_readCommand_206 rfl (lv_at hl 0 rfl) ?_
        refine lv_aload_n hx hb dX6_readCommand_207 rfl (lv_at hl 3 rfl) ?_
        refine lv_iconst (v := 0) hx hb dX6_readCommand_208 (by decide) ?_
        refine xa_iald (k := 0) (v := r 0) hx hb hE.1 hP 2 0 rfl rfl (xin (by decide)) rfl rfl dX6_readCommand_209 ?_
        refine lv_imul hx hb dX6_readCommand_210 ?_
        refine xw_calli (va_runS (As := [.ref a7, .int (q6.1 * (r 0))]) (rest := [.ref a0]) ⟨hx, hb, hml, hown, hts⟩ (c_X6_allOn l D y a7 H.size r (q6.1 * (r 0)) (okM_of2 on (by assumption))) (va_cwS 2 hts gX6_readCommand_X6_allOn rfl rfl rfl hd_X6_allOn ⟨Nat.le_of_ble_eq_true rfl, Nat.le_of_ble_eq_true rfl⟩) (gS hE (hP.sub [2] rfl) (hD.sub [2] (by decide) rfl)) rfl rfl hl.1 rfl (lv_room (Nat.le_of_ble_eq_true rfl)) dX6_readCommand_211 ⟨Nat.le_of_ble_eq_true rfl, Nat.le_of_ble_eq_true rfl⟩) hP hD hS hA [2] rfl (by decide) (fun _ => rfl) (fun v15 u14 H locs h13 hP hD hS => ?_)
        obtain ⟨q16, eq16⟩ : ∃ z : Int32 × gR, f_X6_allOn r (q6.1 * (r 0)) = z := ⟨_, rfl⟩
        obtain ⟨rfl, rfl⟩ : q16.1 = v15 ∧ q16.2 = u14 := ⟨by rw [← eq16, h13], by rw [← eq16, h13]⟩
        have hF := hF.trans (gLet_e eq16)
        have hP : va_P D vwCl [(a0, .inr (5, [.int rf, .ref a1, .int sz, .ref a2, .ref a3, .ref a4, .int ac, .ref a5, .ref a6, .int q6.2, .int ou])), (a1, .inl (y 0, 120, .inl tx)), (a7, .inl (y 0, 78, .inl q16.2))] H := hP
        have hD : va_D A [(a0, .inr (5, [.int rf, .ref a1, .int sz, .ref a2, .ref a3, .ref a4, .int ac, .ref a5, .ref a6, .int q6.2, .int ou])), (a1, .inl (y 0, 120, .inl tx)), (a7, .inl (y 0, 78, .inl q16.2))] := hD
        refine lv_if_lt (tgt := 221) hx hb dX6_readCommand_214 (by decide) (fun c_17 => ?_) (fun c_17 => ?_)
        · have hF := hF.trans (if_pos c_17)
          refine lv_iconst (v := 0) hx hb dX6_readCommand_221 (by decide) ?_
          refine xw_calli (va_runV (As := [.int 0]) (rest := []) ⟨hx, hb, hml, hown, hts⟩ (c_X6_done l D y a0 a1 a2 a3 a4 a5 a6 H.size rf sz ac q6.2 ou 0) (cwV 1 hts gX6_readCommand_X6_done rfl rfl rfl hd_X6_done ⟨Nat.le_of_ble_eq_true rfl, Nat.le_of_ble_eq_true rfl⟩) (gV (q := (RX6, TX6, 11)) hE (hP.sub [0] rfl) (hD.sub [0] (by decide) rfl) 0 rfl rfl) rfl rfl hl.1 rfl (lv_room (Nat.le_of_ble_eq_true rfl)) dX6_readCommand_222 ⟨Nat.le_of_ble_eq_true rfl, Nat.le_of_ble_eq_true rfl⟩) hP hD hS hA [0] rfl (by decide) (fun _ => rfl) (fun v20 u19 H locs h18 hP hD hS => ?_)
          have h18 := (dn0 rf sz ac q6.2 ou).symm.trans h18
          obtain ⟨rfl, rfl⟩ := Prod.mk.inj h18
          have hP : va_P D vwCl [(a0, .inr (5, [.int rf, .ref a1, .int sz, .ref a2, .ref a3, .ref a4, .int ac, .ref a5, .ref a6, .int q6.2, .int (ou + 1)])), (a1, .inl (y 0, 120, .inl tx)), (a7, .inl (y 0, 78, .inl q16.2))] H := hP
          have hD : va_D A [(a0, .inr (5, [.int rf, .ref a1, .int sz, .ref a2, .ref a3, .ref a4, .int ac, .ref a5, .ref a6, .int q6.2, .int (ou + 1)])), (a1, .inl (y 0, 120, .inl tx)), (a7, .inl (y 0, 78, .inl q16.2))] := hD
          refine lv_if_eq (tgt := 232) hx hb dX6_readCommand_225 (by decide) (fun c_21 => absurd c_21 (by decide)) (fun c_21 => ?_)
          refine lv_iconst (v := 1) hx hb dX6_readCommand_228 (by decide) ?_
          refine lv_goto (tgt := 233) hx hb dX6_readCommand_229 (by decide) ?_
          exact W.zret (v := 1) hx hb hr rfl (fun t ht hW => ⟨⟨1, ⟨q16.2, q6.2, (ou + 1)⟩, rfl, hF, ⟨by rw [ht]; exact hP, hD⟩⟩, hS.F ht⟩) hS.2.2 dX6_readCommand_233
        · have hF := hF.trans (if_neg c_17)
          refine lv_iconst (v := 1) hx hb dX6_readCommand_217 (by decide) ?_
          refine lv_goto (tgt := 222) hx hb dX6_readCommand_218 (by decide) ?_
          refine xw_calli (va_runV (As := [.int 1]) (rest := []) ⟨hx, hb, hml, hown, hts⟩ (c_X6_done l D y a0 a1 a2 a3 a4 a5 a6 H.size rf sz ac q6.2 ou 1) (cwV 1 hts gX6_readCommand_X6_done rfl rfl rfl hd_X6_done ⟨Nat.le_of_ble_eq_true rfl, Nat.le_of_ble_eq_true rfl⟩) (gV (q := (RX6, TX6, 11)) hE (hP.sub [0] rfl) (hD.sub [0] (by decide) rfl) 0 rfl rfl) rfl rfl hl.1 rfl (lv_room (Nat.le_of_ble_eq_true rfl)) dX6_readCommand_222 ⟨Nat.le_of_ble_eq_true rfl, Nat.le_of_ble_eq_true rfl⟩) hP hD hS hA [0] rfl (by decide) (fun _ => rfl) (fun v24 u23 H locs h22 hP hD hS => ?_)
          have h22 := (dn1 rf sz ac q6.2 ou).symm.trans h22
          obtain ⟨rfl, rfl⟩ := Prod.mk.inj h22
          have hP : va_P D vwCl [(a0, .inr (5, [.int rf, .ref a1, .int sz, .ref a2, .ref a3, .ref a4, .int ac, .ref a5, .ref a6, .int q6.2, .int (ou + 0)])), (a1, .inl (y 0, 120, .inl tx)), (a7, .inl (y 0, 78, .inl q16.2))] H := hP
          have hD : va_D A [(a0, .inr (5, [.int rf, .ref a1, .int sz, .ref a2, .ref a3, .ref a4, .int ac, .ref a5, .ref a6, .int q6.2, .int (ou + 0)])), (a1, .inl (y 0, 120, .inl tx)), (a7, .inl (y 0, 78, .inl q16.2))] := hD
          refine lv_if_eq (tgt := 232) hx hb dX6_readCommand_225 (by decide) (fun c_25 => absurd c_25 (by decide)) (fun c_25 => ?_)
          refine lv_iconst (v := 1) hx hb dX6_readCommand_228 (by decide) ?_
          refine lv_goto (tgt := 233) hx hb dX6_readCommand_229 (by decide) ?_
          exact W.zret (v := 1) hx hb hr rfl (fun t ht hW => ⟨⟨1, ⟨q16.2, q6.2, (ou + 0)⟩, rfl, hF, ⟨by rw [ht]; exact hP, hD⟩⟩, hS.F ht⟩) hS.2.2 dX6_readCommand_233
  · have hF := hF.trans (if_neg c_2)
    by_cases c_26 : v1 = 104
    · have hF := hF.trans (if_pos c_26)
      refine lv_lookup (off := 99) (tgt := 120) hx hb dX6_readCommand_21 (by decide) (by rw [c_26]; decide) (by decide) ?_
      refine lv_aload_n hx hb dX6_readCommand_120 rfl (lv_at hl 1 rfl) ?_
      refine lv_iconst (v := 0) hx hb dX6_readCommand_121 (by decide) ?_
      refine lv_iconst (v := 2) hx hb dX6_readCommand_122 (by decide) ?_
      refine lv_iconst (v := 0) hx hb dX6_readCommand_123 (by decide) ?_
      refine lv_bipush (v := 31) hx hb dX6_readCommand_124 (by decide) ?_
      refine xw_calli (va_runV (As := [.int 0, .int 2, .int 0, .int 31]) (rest := []) ⟨hx, hb, hml, hown, hts⟩ (c_X6_figures l D y a0 a1 a2 a3 a4 a5 a6 H.size rf sz ac (sp + 1) ou tx 0 2 0 31 (up_nn2 hlt hs) hz) (cwV 4 hts gX6_readCommand_X6_figures rfl rfl rfl hd_X6_figures ⟨Nat.le_of_ble_eq_true rfl, Nat.le_of_ble_eq_true rfl⟩) (gV (q := (RX6, TX6, 11)) hE (hP.sub [0, 1] rfl) (hD.sub [0, 1] (by decide) rfl) 0 rfl rfl) rfl rfl hl.1 rfl (lv_room (Nat.le_of_ble_eq_true rfl)) dX6_readCommand_126 ⟨Nat.le_of_ble_eq_true rfl, Nat.le_of_ble_eq_true rfl⟩) hP hD hS hA [0, 1] rfl (by decide) (fun _ => rfl) (fun v29 u28 H locs h27 hP hD hS => ?_)
      obtain ⟨q30, eq30⟩ : ∃ z : Int32 × Int32, f_X6_figures rf sz ac (sp + 1) ou tx 0 2 0 31 = z := ⟨_, rfl⟩
      obtain ⟨rfl, rfl⟩ : q30.1 = v29 ∧ q30.2 = u28 := ⟨by rw [← eq30, h27], by rw [← eq30, h27]⟩
      have hF := hF.trans (gLet_e eq30)
      have hP : va_P D vwCl [(a0, .inr (5, [.int rf, .ref a1, .int sz, .ref a2, .ref a3, .ref a4, .int ac, .ref a5, .ref a6, .int q30.2, .int ou])), (a1, .inl (y 0, 120, .inl tx)), (a7, .inl (y 0, 78, .inl r))] H := hP
      have hD : va_D A [(a0, .inr (5, [.int rf, .ref a1, .int sz, .ref a2, .ref a3, .ref a4, .int ac, .ref a5, .ref a6, .int q30.2, .int ou])), (a1, .inl (y 0, 120, .inl tx)), (a7, .inl (y 0, 78, .inl r))] := hD
      refine lv_istore_n (lv' := [(3, .int q30.1), (2, .int (tx sp.toNatClampNeg)), (0, .ref a0), (1, .ref a7)]) hx hb dX6_readCommand_129 rfl hl (by decide) rfl (fun ls hl => ?_)
      refine lv_aload_n hx hb dX6_readCommand_130 rfl (lv_at hl 2 rfl) ?_
      refine lv_iload_n hx hb dX6_readCommand_131 rfl (lv_at hl 0 rfl) ?_
      refine lv_iconst (v := 2) hx hb dX6_readCommand_132 (by decide) ?_
      refine lv_iconst (v := 1) hx hb dX6_readCommand_133 (by decide) ?_
      refine lv_bipush (v := 99) hx hb dX6_readCommand_134 (by decide) ?_
      refine xw_calli (va_runV (As := [.int q30.1, .int 2, .int 1, .int 99]) (rest := []) ⟨hx, hb, hml, hown, hts⟩ (c_X6_figures l D y a0 a1 a2 a3 a4 a5 a6 H.size rf sz ac q30.2 ou tx q30.1 2 1 99 (by rw [← eq30]; exact fg_nn _ _ _ _ _ _ _ _ _ _ (up_nn2 hlt hs)) hz) (cwV 4 hts gX6_readCommand_X6_figures rfl rfl rfl hd_X6_figures ⟨Nat.le_of_ble_eq_true rfl, Nat.le_of_ble_eq_true rfl⟩) (gV (q := (RX6, TX6, 11)) hE (hP.sub [0, 1] rfl) (hD.sub [0, 1] (by decide) rfl) 0 rfl rfl) rfl rfl hl.1 rfl (lv_room (Nat.le_of_ble_eq_true rfl)) dX6_readCommand_136 ⟨Nat.le_of_ble_eq_true rfl, Nat.le_of_ble_eq_true rfl⟩) hP hD hS hA [0, 1] rfl (by decide) (fun _ => rfl) (fun v33 u32 H locs h31 hP hD hS => ?_)
      obtain ⟨q34, eq34⟩ : ∃ z : Int32 × Int32, f_X6_figures rf sz ac q30.2 ou tx q30.1 2 1 99 = z := ⟨_, rfl⟩
      obtain ⟨rfl, rfl⟩ : q34.1 = v33 ∧ q34.2 = u32 := ⟨by rw [← eq34, h31], by rw [← eq34, h31]⟩
      have hF := hF.trans (gLet_e eq34)
      have hP : va_P D vwCl [(a0, .inr (5, [.int rf, .ref a1, .int sz, .ref a2, .ref a3, .ref a4, .int ac, .ref a5, .ref a6, .int q34.2, .int ou])), (a1, .inl (y 0, 120, .inl tx)), (a7, .inl (y 0, 78, .inl r))] H := hP
      have hD : va_D A [(a0, .inr (5, [.int rf, .ref a1, .int sz, .ref a2, .ref a3, .ref a4, .int ac, .ref a5, .ref a6, .int q34.2, .int ou])), (a1, .inl (y 0, 120, .inl tx)), (a7, .inl (y 0, 78, .inl r))] := hD
      refine lv_istore (lv' := [(4, .int q34.1), (3, .int q30.1), (2, .int (tx sp.toNatClampNeg)), (0, .ref a0), (1, .ref a7)]) hx hb dX6_readCommand_139 hl (by decide) rfl (fun ls hl => ?_)
      refine lv_iload hx hb dX6_readCommand_141 (lv_at hl 0 rfl) ?_
      refine lv_iconst (v := (-1)) hx hb dX6_readCommand_143 (by decide) ?_
      refine lv_icmp_eq (tgt := 181) hx hb dX6_readCommand_144 (by decide) (fun c_35 => ?_) (fun c_35 => ?_)
      · have hF := hF.trans (if_pos c_35)
        refine lv_iconst (v := 0) hx hb dX6_readCommand_181 (by decide) ?_
        exact W.zret (v := 0) hx hb hr rfl (fun t ht hW => ⟨⟨0, ⟨r, q34.2, ou⟩, rfl, hF, ⟨by rw [ht]; exact hP, hD⟩⟩, hS.F ht⟩) hS.2.2 dX6_readCommand_182
      · have hF := hF.trans (if_neg c_35)
        refine lv_aload_n hx hb dX6_readCommand_147 rfl (lv_at hl 3 rfl) ?_
        refine lv_aload_n hx hb dX6_readCommand_148 rfl (lv_at hl 4 rfl) ?_
        refine lv_iload_n hx hb dX6_readCommand_149 rfl (lv_at hl 1 rfl) ?_
        refine xs_calli (va_runS (As := [.ref a7, .int q30.1]) (rest := [.ref a0]) ⟨hx, hb, hml, hown, hts⟩ (c_X6_isLine l D y a7 H.size r q30.1) (va_cwS 2 hts gX6_readCommand_X6_isLine rfl rfl rfl hd_X6_isLine ⟨Nat.le_of_ble_eq_true rfl, Nat.le_of_ble_eq_true rfl⟩) (gS hE (hP.sub [2] rfl) (hD.sub [2] (by decide) rfl)) rfl rfl hl.1 rfl (lv_room (Nat.le_of_ble_eq_true rfl)) dX6_readCommand_150 ⟨Nat.le_of_ble_eq_true rfl, Nat.le_of_ble_eq_true rfl⟩) (fun v37 h36 => ?_)
        have hF := hF.trans (gLet_e h36)
        refine lv_if_eq (tgt := 170) hx hb dX6_readCommand_153 (by decide) (fun c_38 => ?_) (fun c_38 => ?_)
        · have hF := hF.trans (if_pos c_38)
          refine lv_iconst (v := 0) hx hb dX6_readCommand_170 (by decide) ?_
          refine xw_calli (va_runV (As := [.int 0]) (rest := []) ⟨hx, hb, hml, hown, hts⟩ (c_X6_done l D y a0 a1 a2 a3 a4 a5 a6 H.size rf sz ac q34.2 ou 0) (cwV 1 hts gX6_readCommand_X6_done rfl rfl rfl hd_X6_done ⟨Nat.le_of_ble_eq_true rfl, Nat.le_of_ble_eq_true rfl⟩) (gV (q := (RX6, TX6, 11)) hE (hP.sub [0] rfl) (hD.sub [0] (by decide) rfl) 0 rfl rfl) rfl rfl hl.1 rfl (lv_room (Nat.le_of_ble_eq_true rfl)) dX6_readCommand_171 ⟨Nat.le_of_ble_eq_true rfl, Nat.le_of_ble_eq_true rfl⟩) hP hD hS hA [0] rfl (by decide) (fun _ => rfl) (fun v41 u40 H locs h39 hP hD hS => ?_)
          have h39 := (dn0 rf sz ac q34.2 ou).symm.trans h39
          obtain ⟨rfl, rfl⟩ := Prod.mk.inj h39
          have hP : va_P D vwCl [(a0, .inr (5, [.int rf, .ref a1, .int sz, .ref a2, .ref a3, .ref a4, .int ac, .ref a5, .ref a6, .int q34.2, .int (ou + 1)])), (a1, .inl (y 0, 120, .inl tx)), (a7, .inl (y 0, 78, .inl r))] H := hP
          have hD : va_D A [(a0, .inr (5, [.int rf, .ref a1, .int sz, .ref a2, .ref a3, .ref a4, .int ac, .ref a5, .ref a6, .int q34.2, .int (ou + 1)])), (a1, .inl (y 0, 120, .inl tx)), (a7, .inl (y 0, 78, .inl r))] := hD
          refine lv_if_eq (tgt := 181) hx hb dX6_readCommand_174 (by decide) (fun c_42 => absurd c_42 (by decide)) (fun c_42 => ?_)
          refine lv_iconst (v := 1) hx hb dX6_readCommand_177 (by decide) ?_
          refine lv_goto (tgt := 182) hx hb dX6_readCommand_178 (by decide) ?_
          exact W.zret (v := 1) hx hb hr rfl (fun t ht hW => ⟨⟨1, ⟨r, q34.2, (ou + 1)⟩, rfl, hF, ⟨by rw [ht]; exact hP, hD⟩⟩, hS.F ht⟩) hS.2.2 dX6_readCommand_182
        · have hF := hF.trans (if_neg c_38)
          refine lv_aload_n hx hb dX6_readCommand_156 rfl (lv_at hl 4 rfl) ?_
          refine lv_iload_n hx hb dX6_readCommand_157 rfl (lv_at hl 1 rfl) ?_
          refine lv_iload hx hb dX6_readCommand_158 (lv_at hl 0 rfl) ?_
          refine xw_calli (va_runS (As := [.ref a7, .int q30.1, .int q34.1]) (rest := [.ref a0]) ⟨hx, hb, hml, hown, hts⟩ (c_X6_hammerOn l D y a7 H.size r q30.1 q34.1 (okM_of on (il_okL (r := r) (l := q30.1) h36 (by assumption) on.1)) (il_okL (r := r) (l := q30.1) h36 (by assumption) on.1)) (va_cwS 3 hts gX6_readCommand_X6_hammerOn rfl rfl rfl hd_X6_hammerOn ⟨Nat.le_of_ble_eq_true rfl, Nat.le_of_ble_eq_true rfl⟩) (gS hE (hP.sub [2] rfl) (hD.sub [2] (by decide) rfl)) rfl rfl hl.1 rfl (lv_room (Nat.le_of_ble_eq_true rfl)) dX6_readCommand_160 ⟨Nat.le_of_ble_eq_true rfl, Nat.le_of_ble_eq_true rfl⟩) hP hD hS hA [2] rfl (by decide) (fun _ => rfl) (fun v45 u44 H locs h43 hP hD hS => ?_)
          obtain ⟨q46, eq46⟩ : ∃ z : Int32 × gR, f_X6_hammerOn r q30.1 q34.1 = z := ⟨_, rfl⟩
          obtain ⟨rfl, rfl⟩ : q46.1 = v45 ∧ q46.2 = u44 := ⟨by rw [← eq46, h43], by rw [← eq46, h43]⟩
          have hF := hF.trans (gLet_e eq46)
          have hP : va_P D vwCl [(a0, .inr (5, [.int rf, .ref a1, .int sz, .ref a2, .ref a3, .ref a4, .int ac, .ref a5, .ref a6, .int q34.2, .int ou])), (a1, .inl (y 0, 120, .inl tx)), (a7, .inl (y 0, 78, .inl q46.2))] H := hP
          have hD : va_D A [(a0, .inr (5, [.int rf, .ref a1, .int sz, .ref a2, .ref a3, .ref a4, .int ac, .ref a5, .ref a6, .int q34.2, .int ou])), (a1, .inl (y 0, 120, .inl tx)), (a7, .inl (y 0, 78, .inl q46.2))] := hD
          refine lv_if_lt (tgt := 170) hx hb dX6_readCommand_163 (by decide) (fun c_47 => ?_) (fun c_47 => ?_)
          · have hF := hF.trans (if_pos c_47)
            refine lv_iconst (v := 0) hx hb dX6_readCommand_170 (by decide) ?_
            refine xw_calli (va_runV (As := [.int 0]) (rest := []) ⟨hx, hb, hml, hown, hts⟩ (c_X6_done l D y a0 a1 a2 a3 a4 a5 a6 H.size rf sz ac q34.2 ou 0) (cwV 1 hts gX6_readCommand_X6_done rfl rfl rfl hd_X6_done ⟨Nat.le_of_ble_eq_true rfl, Nat.le_of_ble_eq_true rfl⟩) (gV (q := (RX6, TX6, 11)) hE (hP.sub [0] rfl) (hD.sub [0] (by decide) rfl) 0 rfl rfl) rfl rfl hl.1 rfl (lv_room (Nat.le_of_ble_eq_true rfl)) dX6_readCommand_171 ⟨Nat.le_of_ble_eq_true rfl, Nat.le_of_ble_eq_true rfl⟩) hP hD hS hA [0] rfl (by decide) (fun _ => rfl) (fun v50 u49 H locs h48 hP hD hS => ?_)
            have h48 := (dn0 rf sz ac q34.2 ou).symm.trans h48
            obtain ⟨rfl, rfl⟩ := Prod.mk.inj h48
            have hP : va_P D vwCl [(a0, .inr (5, [.int rf, .ref a1, .int sz, .ref a2, .ref a3, .ref a4, .int ac, .ref a5, .ref a6, .int q34.2, .int (ou + 1)])), (a1, .inl (y 0, 120, .inl tx)), (a7, .inl (y 0, 78, .inl q46.2))] H := hP
            have hD : va_D A [(a0, .inr (5, [.int rf, .ref a1, .int sz, .ref a2, .ref a3, .ref a4, .int ac, .ref a5, .ref a6, .int q34.2, .int (ou + 1)])), (a1, .inl (y 0, 120, .inl tx)), (a7, .inl (y 0, 78, .inl q46.2))] := hD
            refine lv_if_eq (tgt := 181) hx hb dX6_readCommand_174 (by decide) (fun c_51 => absurd c_51 (by decide)) (fun c_51 => ?_)
            refine lv_iconst (v := 1) hx hb dX6_readCommand_177 (by decide) ?_
            refine lv_goto (tgt := 182) hx hb dX6_readCommand_178 (by decide) ?_
            exact W.zret (v := 1) hx hb hr rfl (fun t ht hW => ⟨⟨1, ⟨q46.2, q34.2, (ou + 1)⟩, rfl, hF, ⟨by rw [ht]; exact hP, hD⟩⟩, hS.F ht⟩) hS.2.2 dX6_readCommand_182
          · have hF := hF.trans (if_neg c_47)
            refine lv_iconst (v := 1) hx hb dX6_readCommand_166 (by decide) ?_
            refine lv_goto (tgt := 171) hx hb dX6_readCommand_167 (by decide) ?_
            refine xw_calli (va_runV (As := [.int 1]) (rest := []) ⟨hx, hb, hml, hown, hts⟩ (c_X6_done l D y a0 a1 a2 a3 a4 a5 a6 H.size rf sz ac q34.2 ou 1) (cwV 1 hts gX6_readCommand_X6_done rfl rfl rfl hd_X6_done ⟨Nat.le_of_ble_eq_true rfl, Nat.le_of_ble_eq_true rfl⟩) (gV (q := (RX6, TX6, 11)) hE (hP.sub [0] rfl) (hD.sub [0] (by decide) rfl) 0 rfl rfl) rfl rfl hl.1 rfl (lv_room (Nat.le_of_ble_eq_true rfl)) dX6_readCommand_171 ⟨Nat.le_of_ble_eq_true rfl, Nat.le_of_ble_eq_true rfl⟩) hP hD hS hA [0] rfl (by decide) (fun _ => rfl) (fun v54 u53 H locs h52 hP hD hS => ?_)
            have h52 := (dn1 rf sz ac q34.2 ou).symm.trans h52
            obtain ⟨rfl, rfl⟩ := Prod.mk.inj h52
            have hP : va_P D vwCl [(a0, .inr (5, [.int rf, .ref a1, .int sz, .ref a2, .ref a3, .ref a4, .int ac, .ref a5, .ref a6, .int q34.2, .int (ou + 0)])), (a1, .inl (y 0, 120, .inl tx)), (a7, .inl (y 0, 78, .inl q46.2))] H := hP
            have hD : va_D A [(a0, .inr (5, [.int rf, .ref a1, .int sz, .ref a2, .ref a3, .ref a4, .int ac, .ref a5, .ref a6, .int q34.2, .int (ou + 0)])), (a1, .inl (y 0, 120, .inl tx)), (a7, .inl (y 0, 78, .inl q46.2))] := hD
            refine lv_if_eq (tgt := 181) hx hb dX6_readCommand_174 (by decide) (fun c_55 => absurd c_55 (by decide)) (fun c_55 => ?_)
            refine lv_iconst (v := 1) hx hb dX6_readCommand_177 (by decide) ?_
            refine lv_goto (tgt := 182) hx hb dX6_readCommand_178 (by decide) ?_
            exact W.zret (v := 1) hx hb hr rfl (fun t ht hW => ⟨⟨1, ⟨q46.2, q34.2, (ou + 0)⟩, rfl, hF, ⟨by rw [ht]; exact hP, hD⟩⟩, hS.F ht⟩) hS.2.2 dX6_readCommand_182
    · have hF := hF.trans (if_neg c_26)
      by_cases c_56 : v1 = 119
      · have hF := hF.trans (if_pos c_56)
        refine lv_lookup (off := 35) (tgt := 56) hx hb dX6_readCommand_21 (by decide) (by rw [c_56]; decide) (by decide) ?_
        refine lv_aload_n hx hb dX6_readCommand_56 rfl (lv_at hl 1 rfl) ?_
        refine lv_iconst (v := 0) hx hb dX6_readCommand_57 (by decide) ?_
        refine lv_iconst (v := 2) hx hb dX6_readCommand_58 (by decide) ?_
        refine lv_iconst (v := 0) hx hb dX6_readCommand_59 (by decide) ?_
        refine lv_bipush (v := 31) hx hb dX6_readCommand_60 (by decide) ?_
        refine xw_calli (va_runV (As := [.int 0, .int 2, .int 0, .int 31]) (rest := []) ⟨hx, hb, hml, hown, hts⟩ (c_X6_figures l D y a0 a1 a2 a3 a4 a5 a6 H.size rf sz ac (sp + 1) ou tx 0 2 0 31 (up_nn2 hlt hs) hz) (cwV 4 hts gX6_readCommand_X6_figures rfl rfl rfl hd_X6_figures ⟨Nat.le_of_ble_eq_true rfl, Nat.le_of_ble_eq_true rfl⟩) (gV (q := (RX6, TX6, 11)) hE (hP.sub [0, 1] rfl) (hD.sub [0, 1] (by decide) rfl) 0 rfl rfl) rfl rfl hl.1 rfl (lv_room (Nat.le_of_ble_eq_true rfl)) dX6_readCommand_62 ⟨Nat.le_of_ble_eq_true rfl, Nat.le_of_ble_eq_true rfl⟩) hP hD hS hA [0, 1] rfl (by decide) (fun _ => rfl) (fun v59 u58 H locs h57 hP hD hS => ?_)
        obtain ⟨q60, eq60⟩ : ∃ z : Int32 × Int32, f_X6_figures rf sz ac (sp + 1) ou tx 0 2 0 31 = z := ⟨_, rfl⟩
        obtain ⟨rfl, rfl⟩ : q60.1 = v59 ∧ q60.2 = u58 := ⟨by rw [← eq60, h57], by rw [← eq60, h57]⟩
        have hF := hF.trans (gLet_e eq60)
        have hP : va_P D vwCl [(a0, .inr (5, [.int rf, .ref a1, .int sz, .ref a2, .ref a3, .ref a4, .int ac, .ref a5, .ref a6, .int q60.2, .int ou])), (a1, .inl (y 0, 120, .inl tx)), (a7, .inl (y 0, 78, .inl r))] H := hP
        have hD : va_D A [(a0, .inr (5, [.int rf, .ref a1, .int sz, .ref a2, .ref a3, .ref a4, .int ac, .ref a5, .ref a6, .int q60.2, .int ou])), (a1, .inl (y 0, 120, .inl tx)), (a7, .inl (y 0, 78, .inl r))] := hD
        refine lv_istore_n (lv' := [(3, .int q60.1), (2, .int (tx sp.toNatClampNeg)), (0, .ref a0), (1, .ref a7)]) hx hb dX6_readCommand_65 rfl hl (by decide) rfl (fun ls hl => ?_)
        refine lv_aload_n hx hb dX6_readCommand_66 rfl (lv_at hl 2 rfl) ?_
        refine lv_iload_n hx hb dX6_readCommand_67 rfl (lv_at hl 0 rfl) ?_
        refine lv_iconst (v := 3) hx hb dX6_readCommand_68 (by decide) ?_
        refine lv_iconst (v := 0) hx hb dX6_readCommand_69 (by decide) ?_
        refine lv_sipush (v := 999) hx hb dX6_readCommand_70 (by decide) ?_
        refine xw_calli (va_runV (As := [.int q60.1, .int 3, .int 0, .int 999]) (rest := []) ⟨hx, hb, hml, hown, hts⟩ (c_X6_figures l D y a0 a1 a2 a3 a4 a5 a6 H.size rf sz ac q60.2 ou tx q60.1 3 0 999 (by rw [← eq60]; exact fg_nn _ _ _ _ _ _ _ _ _ _ (up_nn2 hlt hs)) hz) (cwV 4 hts gX6_readCommand_X6_figures rfl rfl rfl hd_X6_figures ⟨Nat.le_of_ble_eq_true rfl, Nat.le_of_ble_eq_true rfl⟩) (gV (q := (RX6, TX6, 11)) hE (hP.sub [0, 1] rfl) (hD.sub [0, 1] (by decide) rfl) 0 rfl rfl) rfl rfl hl.1 rfl (lv_room (Nat.le_of_ble_eq_true rfl)) dX6_readCommand_73 ⟨Nat.le_of_ble_eq_true rfl, Nat.le_of_ble_eq_true rfl⟩) hP hD hS hA [0, 1] rfl (by decide) (fun _ => rfl) (fun v63 u62 H locs h61 hP hD hS => ?_)
        obtain ⟨q64, eq64⟩ : ∃ z : Int32 × Int32, f_X6_figures rf sz ac q60.2 ou tx q60.1 3 0 999 = z := ⟨_, rfl⟩
        obtain ⟨rfl, rfl⟩ : q64.1 = v63 ∧ q64.2 = u62 := ⟨by rw [← eq64, h61], by rw [← eq64, h61]⟩
        have hF := hF.trans (gLet_e eq64)
        have hP : va_P D vwCl [(a0, .inr (5, [.int rf, .ref a1, .int sz, .ref a2, .ref a3, .ref a4, .int ac, .ref a5, .ref a6, .int q64.2, .int ou])), (a1, .inl (y 0, 120, .inl tx)), (a7, .inl (y 0, 78, .inl r))] H := hP
        have hD : va_D A [(a0, .inr (5, [.int rf, .ref a1, .int sz, .ref a2, .ref a3, .ref a4, .int ac, .ref a5, .ref a6, .int q64.2, .int ou])), (a1, .inl (y 0, 120, .inl tx)), (a7, .inl (y 0, 78, .inl r))] := hD
        refine lv_istore (lv' := [(4, .int q64.1), (3, .int q60.1), (2, .int (tx sp.toNatClampNeg)), (0, .ref a0), (1, .ref a7)]) hx hb dX6_readCommand_76 hl (by decide) rfl (fun ls hl => ?_)
        refine lv_iload hx hb dX6_readCommand_78 (lv_at hl 0 rfl) ?_
        refine lv_iconst (v := (-1)) hx hb dX6_readCommand_80 (by decide) ?_
        refine lv_icmp_eq (tgt := 118) hx hb dX6_readCommand_81 (by decide) (fun c_65 => ?_) (fun c_65 => ?_)
        · have hF := hF.trans (if_pos c_65)
          refine lv_iconst (v := 0) hx hb dX6_readCommand_118 (by decide) ?_
          exact W.zret (v := 0) hx hb hr rfl (fun t ht hW => ⟨⟨0, ⟨r, q64.2, ou⟩, rfl, hF, ⟨by rw [ht]; exact hP, hD⟩⟩, hS.F ht⟩) hS.2.2 dX6_readCommand_119
        · have hF := hF.trans (if_neg c_65)
          refine lv_aload_n hx hb dX6_readCommand_84 rfl (lv_at hl 3 rfl) ?_
          refine lv_aload_n hx hb dX6_readCommand_85 rfl (lv_at hl 4 rfl) ?_
          refine lv_iload_n hx hb dX6_readCommand_86 rfl (lv_at hl 1 rfl) ?_
          refine xs_calli (va_runS (As := [.ref a7, .int q60.1]) (rest := [.ref a0]) ⟨hx, hb, hml, hown, hts⟩ (c_X6_canWrite l D y a7 H.size r q60.1) (va_cwS 2 hts gX6_readCommand_X6_canWrite rfl rfl rfl hd_X6_canWrite ⟨Nat.le_of_ble_eq_true rfl, Nat.le_of_ble_eq_true rfl⟩) (gS hE (hP.sub [2] rfl) (hD.sub [2] (by decide) rfl)) rfl rfl hl.1 rfl (lv_room (Nat.le_of_ble_eq_true rfl)) dX6_readCommand_87 ⟨Nat.le_of_ble_eq_true rfl, Nat.le_of_ble_eq_true rfl⟩) (fun v67 h66 => ?_)
          have hF := hF.trans (gLet_e h66)
          refine lv_if_eq (tgt := 107) hx hb dX6_readCommand_90 (by decide) (fun c_68 => ?_) (fun c_68 => ?_)
          · have hF := hF.trans (if_pos c_68)
            refine lv_iconst (v := 0) hx hb dX6_readCommand_107 (by decide) ?_
            refine xw_calli (va_runV (As := [.int 0]) (rest := []) ⟨hx, hb, hml, hown, hts⟩ (c_X6_done l D y a0 a1 a2 a3 a4 a5 a6 H.size rf sz ac q64.2 ou 0) (cwV 1 hts gX6_readCommand_X6_done rfl rfl rfl hd_X6_done ⟨Nat.le_of_ble_eq_true rfl, Nat.le_of_ble_eq_true rfl⟩) (gV (q := (RX6, TX6, 11)) hE (hP.sub [0] rfl) (hD.sub [0] (by decide) rfl) 0 rfl rfl) rfl rfl hl.1 rfl (lv_room (Nat.le_of_ble_eq_true rfl)) dX6_readCommand_108 ⟨Nat.le_of_ble_eq_true rfl, Nat.le_of_ble_eq_true rfl⟩) hP hD hS hA [0] rfl (by decide) (fun _ => rfl) (fun v71 u70 H locs h69 hP hD hS => ?_)
            have h69 := (dn0 rf sz ac q64.2 ou).symm.trans h69
            obtain ⟨rfl, rfl⟩ := Prod.mk.inj h69
            have hP : va_P D vwCl [(a0, .inr (5, [.int rf, .ref a1, .int sz, .ref a2, .ref a3, .ref a4, .int ac, .ref a5, .ref a6, .int q64.2, .int (ou + 1)])), (a1, .inl (y 0, 120, .inl tx)), (a7, .inl (y 0, 78, .inl r))] H := hP
            have hD : va_D A [(a0, .inr (5, [.int rf, .ref a1, .int sz, .ref a2, .ref a3, .ref a4, .int ac, .ref a5, .ref a6, .int q64.2, .int (ou + 1)])), (a1, .inl (y 0, 120, .inl tx)), (a7, .inl (y 0, 78, .inl r))] := hD
            refine lv_if_eq (tgt := 118) hx hb dX6_readCommand_111 (by decide) (fun c_72 => absurd c_72 (by decide)) (fun c_72 => ?_)
            refine lv_iconst (v := 1) hx hb dX6_readCommand_114 (by decide) ?_
            refine lv_goto (tgt := 119) hx hb dX6_readCommand_115 (by decide) ?_
            exact W.zret (v := 1) hx hb hr rfl (fun t ht hW => ⟨⟨1, ⟨r, q64.2, (ou + 1)⟩, rfl, hF, ⟨by rw [ht]; exact hP, hD⟩⟩, hS.F ht⟩) hS.2.2 dX6_readCommand_119
          · have hF := hF.trans (if_neg c_68)
            refine lv_aload_n hx hb dX6_readCommand_93 rfl (lv_at hl 4 rfl) ?_
            refine lv_iload_n hx hb dX6_readCommand_94 rfl (lv_at hl 1 rfl) ?_
            refine lv_iload hx hb dX6_readCommand_95 (lv_at hl 0 rfl) ?_
            refine xw_calli (va_runS (As := [.ref a7, .int q60.1, .int q64.1]) (rest := [.ref a0]) ⟨hx, hb, hml, hown, hts⟩ (c_X6_writeOn l D y a7 H.size r q60.1 q64.1 (okM_of on (cw_okL (r := r) (l := q60.1) h66 (by assumption) on.1)) (cw_okL (r := r) (l := q60.1) h66 (by assumption) on.1)) (va_cwS 3 hts gX6_readCommand_X6_writeOn rfl rfl rfl hd_X6_writeOn ⟨Nat.le_of_ble_eq_true rfl, Nat.le_of_ble_eq_true rfl⟩) (gS hE (hP.sub [2] rfl) (hD.sub [2] (by decide) rfl)) rfl rfl hl.1 rfl (lv_room (Nat.le_of_ble_eq_true rfl)) dX6_readCommand_97 ⟨Nat.le_of_ble_eq_true rfl, Nat.le_of_ble_eq_true rfl⟩) hP hD hS hA [2] rfl (by decide) (fun _ => rfl) (fun v75 u74 H locs h73 hP hD hS => ?_)
            obtain ⟨q76, eq76⟩ : ∃ z : Int32 × gR, f_X6_writeOn r q60.1 q64.1 = z := ⟨_, rfl⟩
            obtain ⟨rfl, rfl⟩ : q76.1 = v75 ∧ q76.2 = u74 := ⟨by rw [← eq76, h73], by rw [← eq76, h73]⟩
            have hF := hF.trans (gLet_e eq76)
            have hP : va_P D vwCl [(a0, .inr (5, [.int rf, .ref a1, .int sz, .ref a2, .ref a3, .ref a4, .int ac, .ref a5, .ref a6, .int q64.2, .int ou])), (a1, .inl (y 0, 120, .inl tx)), (a7, .inl (y 0, 78, .inl q76.2))] H := hP
            have hD : va_D A [(a0, .inr (5, [.int rf, .ref a1, .int sz, .ref a2, .ref a3, .ref a4, .int ac, .ref a5, .ref a6, .int q64.2, .int ou])), (a1, .inl (y 0, 120, .inl tx)), (a7, .inl (y 0, 78, .inl q76.2))] := hD
            refine lv_if_lt (tgt := 107) hx hb dX6_readCommand_100 (by decide) (fun c_77 => ?_) (fun c_77 => ?_)
            · have hF := hF.trans (if_pos c_77)
              refine lv_iconst (v := 0) hx hb dX6_readCommand_107 (by decide) ?_
              refine xw_calli (va_runV (As := [.int 0]) (rest := []) ⟨hx, hb, hml, hown, hts⟩ (c_X6_done l D y a0 a1 a2 a3 a4 a5 a6 H.size rf sz ac q64.2 ou 0) (cwV 1 hts gX6_readCommand_X6_done rfl rfl rfl hd_X6_done ⟨Nat.le_of_ble_eq_true rfl, Nat.le_of_ble_eq_true rfl⟩) (gV (q := (RX6, TX6, 11)) hE (hP.sub [0] rfl) (hD.sub [0] (by decide) rfl) 0 rfl rfl) rfl rfl hl.1 rfl (lv_room (Nat.le_of_ble_eq_true rfl)) dX6_readCommand_108 ⟨Nat.le_of_ble_eq_true rfl, Nat.le_of_ble_eq_true rfl⟩) hP hD hS hA [0] rfl (by decide) (fun _ => rfl) (fun v80 u79 H locs h78 hP hD hS => ?_)
              have h78 := (dn0 rf sz ac q64.2 ou).symm.trans h78
              obtain ⟨rfl, rfl⟩ := Prod.mk.inj h78
              have hP : va_P D vwCl [(a0, .inr (5, [.int rf, .ref a1, .int sz, .ref a2, .ref a3, .ref a4, .int ac, .ref a5, .ref a6, .int q64.2, .int (ou + 1)])), (a1, .inl (y 0, 120, .inl tx)), (a7, .inl (y 0, 78, .inl q76.2))] H := hP
              have hD : va_D A [(a0, .inr (5, [.int rf, .ref a1, .int sz, .ref a2, .ref a3, .ref a4, .int ac, .ref a5, .ref a6, .int q64.2, .int (ou + 1)])), (a1, .inl (y 0, 120, .inl tx)), (a7, .inl (y 0, 78, .inl q76.2))] := hD
              refine lv_if_eq (tgt := 118) hx hb dX6_readCommand_111 (by decide) (fun c_81 => absurd c_81 (by decide)) (fun c_81 => ?_)
              refine lv_iconst (v := 1) hx hb dX6_readCommand_114 (by decide) ?_
              refine lv_goto (tgt := 119) hx hb dX6_readCommand_115 (by decide) ?_
              exact W.zret (v := 1) hx hb hr rfl (fun t ht hW => ⟨⟨1, ⟨q76.2, q64.2, (ou + 1)⟩, rfl, hF, ⟨by rw [ht]; exact hP, hD⟩⟩, hS.F ht⟩) hS.2.2 dX6_readCommand_119
            · have hF := hF.trans (if_neg c_77)
              refine lv_iconst (v := 1) hx hb dX6_readCommand_103 (by decide) ?_
              refine lv_goto (tgt := 108) hx hb dX6_readCommand_104 (by decide) ?_
              refine xw_calli (va_runV (As := [.int 1]) (rest := []) ⟨hx, hb, hml, hown, hts⟩ (c_X6_done l D y a0 a1 a2 a3 a4 a5 a6 H.size rf sz ac q64.2 ou 1) (cwV 1 hts gX6_readCommand_X6_done rfl rfl rfl hd_X6_done ⟨Nat.le_of_ble_eq_true rfl, Nat.le_of_ble_eq_true rfl⟩) (gV (q := (RX6, TX6, 11)) hE (hP.sub [0] rfl) (hD.sub [0] (by decide) rfl) 0 rfl rfl) rfl rfl hl.1 rfl (lv_room (Nat.le_of_ble_eq_true rfl)) dX6_readCommand_108 ⟨Nat.le_of_ble_eq_true rfl, Nat.le_of_ble_eq_true rfl⟩) hP hD hS hA [0] rfl (by decide) (fun _ => rfl) (fun v84 u83 H locs h82 hP hD hS => ?_)
              have h82 := (dn1 rf sz ac q64.2 ou).symm.trans h82
              obtain ⟨rfl, rfl⟩ := Prod.mk.inj h82
              have hP : va_P D vwCl [(a0, .inr (5, [.int rf, .ref a1, .int sz, .ref a2, .ref a3, .ref a4, .int ac, .ref a5, .ref a6, .int q64.2, .int (ou + 0)])), (a1, .inl (y 0, 120, .inl tx)), (a7, .inl (y 0, 78, .inl q76.2))] H := hP
              have hD : va_D A [(a0, .inr (5, [.int rf, .ref a1, .int sz, .ref a2, .ref a3, .ref a4, .int ac, .ref a5, .ref a6, .int q64.2, .int (ou + 0)])), (a1, .inl (y 0, 120, .inl tx)), (a7, .inl (y 0, 78, .inl q76.2))] := hD
              refine lv_if_eq (tgt := 118) hx hb dX6_readCommand_111 (by decide) (fun c_85 => absurd c_85 (by decide)) (fun c_85 => ?_)
              refine lv_iconst (v := 1) hx hb dX6_readCommand_114 (by decide) ?_
              refine lv_goto (tgt := 119) hx hb dX6_readCommand_115 (by decide) ?_
              exact W.zret (v := 1) hx hb hr rfl (fun t ht hW => ⟨⟨1, ⟨q76.2, q64.2, (ou + 0)⟩, rfl, hF, ⟨by rw [ht]; exact hP, hD⟩⟩, hS.F ht⟩) hS.2.2 dX6_readCommand_119
      · have hF := hF.trans (if_neg c_56)
        refine lv_lookup (off := 213) (tgt := 234) hx hb dX6_readCommand_21 (by decide) (by have q0 := sw_ne c_2 (n := 97) (by decide); have q1 := sw_ne c_26 (n := 104) (by decide); have q2 := sw_ne c_56 (n := 119) (by decide); simp [Op.lookupswitch.offset, Ne.symm q0, Ne.symm q1, Ne.symm q2]) (by decide) ?_
        refine lv_aload_n hx hb dX6_readCommand_234 rfl (lv_at hl 1 rfl) ?_
        refine lv_dup hx hb dX6_readCommand_235 rfl ?_
        refine va_get (D := D) (ci := 5) (v := .int (sp + 1)) (C := RX6) (T := TX6) (N := 11) hx hb hts hi6 hown hE.1 hP 0 rfl rfl 9 (by decide) w_2 (fun _ h9 => h9) rfl dX6_readCommand_236 ?_
        refine lv_iconst (v := 1) hx hb dX6_readCommand_239 (by decide) ?_
        refine lv_isub hx hb dX6_readCommand_240 ?_
        refine va_put (D := D) (ci := 5) (v := .int ((sp + 1) - 1)) (ty := .int) (C := RX6) (T := TX6) (N := 11) hx hb hts hi6 tyX6 tyX6_ok nmX6 hown hE.1 hP hD hS 0 rfl rfl 9 (by decide) w_2 (fun _ h9 => h9) rfl (by decide +kernel) rfl rfl (Nat.le_of_ble_eq_true rfl) dX6_readCommand_241 (fun H locs hP hD hS => ?_)
        have hP : va_P D vwCl [(a0, .inr (5, [.int rf, .ref a1, .int sz, .ref a2, .ref a3, .ref a4, .int ac, .ref a5, .ref a6, .int ((sp + 1) - 1), .int ou])), (a1, .inl (y 0, 120, .inl tx)), (a7, .inl (y 0, 78, .inl r))] H := hP
        have hD : va_D A [(a0, .inr (5, [.int rf, .ref a1, .int sz, .ref a2, .ref a3, .ref a4, .int ac, .ref a5, .ref a6, .int ((sp + 1) - 1), .int ou])), (a1, .inl (y 0, 120, .inl tx)), (a7, .inl (y 0, 78, .inl r))] := hD
        refine lv_iconst (v := 0) hx hb dX6_readCommand_244 (by decide) ?_
        exact W.zret (v := 0) hx hb hr rfl (fun t ht hW => ⟨⟨0, ⟨r, ((sp + 1) - 1), ou⟩, rfl, hF, ⟨by rw [ht]; exact hP, hD⟩⟩, hS.F ht⟩) hS.2.2 dX6_readCommand_245

def f_X6_readText_L99 (rf : Int32) (sz : Int32) (ac : Int32) (tx : Nat → Int32) : Nat → gR → Int32 → Int32 → Int32 × gR × Int32 × Int32
  | 0, r_, sp_, ou_ => (0, r_, sp_, ou_)
  | n + 1, r_, sp_, ou_ =>
    if sz ≤ sp_ then
    ((-1), r_, sp_, ou_)
  else
    gLet (f_X6_readCommand rf sz ac sp_ ou_ tx r_) (fun (q5 : Int32 × gR × Int32 × Int32) =>
      if q5.1 = 0 then
        (q5.2.2.1, q5.2.1, q5.2.2.1, q5.2.2.2)
      else
        f_X6_readText_L99 rf sz ac tx n q5.2.1 q5.2.2.1 q5.2.2.2)
theorem f_X6_readText_L99_s (rf : Int32) (sz : Int32) (ac : Int32) (tx : Nat → Int32) (n : Nat) (r_ : gR) (sp_ : Int32) (ou_ : Int32) : f_X6_readText_L99 rf sz ac tx (n + 1) r_ sp_ ou_ =
    (if sz ≤ sp_ then
    ((-1), r_, sp_, ou_)
  else
    gLet (f_X6_readCommand rf sz ac sp_ ou_ tx r_) (fun (q5 : Int32 × gR × Int32 × Int32) =>
      if q5.1 = 0 then
        (q5.2.2.1, q5.2.1, q5.2.2.1, q5.2.2.2)
      else
        f_X6_readText_L99 rf sz ac tx n q5.2.1 q5.2.2.1 q5.2.2.2)) := rfl
def f_X6_readText (rf : Int32) (sz : Int32) (ac : Int32) (sp : Int32) (ou : Int32) (tx : Nat → Int32) (r : gR) : Int32 × gR × Int32 × Int32 :=
    gLet (f_X6_clear r) (fun (u8 : gR) =>
    if sz = 0 then
      (0, u8, 0, 0)
    else
      if (tx 0) = 76 then
        gLet (f_X6_figures rf sz ac 1 0 tx 0 2 4 32) (fun (q14 : Int32 × Int32) =>
          gLet (f_X6_figures rf sz ac q14.2 0 tx q14.1 2 1 31) (fun (q18 : Int32 × Int32) =>
            gLet (f_X6_figures rf sz ac q18.2 0 tx q18.1 1 0 4) (fun (q22 : Int32 × Int32) =>
              if q22.1 = (-1) then
                (q22.2, u8, q22.2, 0)
              else
                gLet (f_X6_canMake q14.1 q18.1 q22.1) (fun (v25 : Int32) =>
                  if v25 = 0 then
                    f_X6_readText_L99 rf sz ac tx ((sz.toInt - q22.2.toInt).toNat + 1) u8 q22.2 0
                  else
                    gLet (f_X6_makeOn u8 q14.1 q18.1 q22.1) (fun (q30 : Int32 × gR) =>
                      f_X6_readText_L99 rf sz ac tx ((sz.toInt - q22.2.toInt).toNat + 1) q30.2 q22.2 0)))))
      else
        (0, u8, 0, 0))
theorem f_X6_readText_s (rf : Int32) (sz : Int32) (ac : Int32) (sp : Int32) (ou : Int32) (tx : Nat → Int32) (r : gR) : f_X6_readText rf sz ac sp ou tx r =
    (gLet (f_X6_clear r) (fun (u8 : gR) =>
    if sz = 0 then
      (0, u8, 0, 0)
    else
      if (tx 0) = 76 then
        gLet (f_X6_figures rf sz ac 1 0 tx 0 2 4 32) (fun (q14 : Int32 × Int32) =>
          gLet (f_X6_figures rf sz ac q14.2 0 tx q14.1 2 1 31) (fun (q18 : Int32 × Int32) =>
            gLet (f_X6_figures rf sz ac q18.2 0 tx q18.1 1 0 4) (fun (q22 : Int32 × Int32) =>
              if q22.1 = (-1) then
                (q22.2, u8, q22.2, 0)
              else
                gLet (f_X6_canMake q14.1 q18.1 q22.1) (fun (v25 : Int32) =>
                  if v25 = 0 then
                    f_X6_readText_L99 rf sz ac tx ((sz.toInt - q22.2.toInt).toNat + 1) u8 q22.2 0
                  else
                    gLet (f_X6_makeOn u8 q14.1 q18.1 q22.1) (fun (q30 : Int32 × gR) =>
                      f_X6_readText_L99 rf sz ac tx ((sz.toInt - q22.2.toInt).toNat + 1) q30.2 q22.2 0)))))
      else
        (0, u8, 0, 0))) := rfl
theorem hd_X6_readText : yX6_readText.cls = RX6 ∧ yX6_readText.cls ≠ "java/lang/invoke/MethodHandle" ∧ yX6_readText.cls ≠ "java/lang/invoke/VarHandle" ∧ (parseMethodDescriptor yX6_readText.desc).map (fun d => d.parameters.length) = some 1 := by decide +kernel
set_option maxHeartbeats 4000000 in
set_option maxRecDepth 100000 in
theorem c_X6_readText (l : Launch) (D : va_G) (y : Nat → ClassId) (a0 a1 a2 a3 a4 a5 a6 a7 : Nat) (zh : Nat) (rf : Int32) (sz : Int32) (ac : Int32) (sp : Int32) (ou : Int32) (tx : Nat → Int32) (r : gR) (hz2 : 0 ≤ sz.toInt ∧ sz.toInt ≤ 120) : Met l yX6_readText wsX6_readText ({ frames := 5, cells := 0, slots := 0, locals := 115 }) (gP D y [.ref a0, .ref a7] zh [(a0, .inr (5, [.int rf, .ref a1, .int sz, .ref a2, .ref a3, .ref a4, .int ac, .ref a5, .ref a6, .int sp, .int ou])), (a1, .inl (y 0, 120, .inl tx)), (a7, .inl (y 0, 78, .inl r))]) (va_Qi (fun (v : Int32) (u : gR × Int32 × Int32) => f_X6_readText rf sz ac sp ou tx r = (v, u)) (fun (u : gR × Int32 × Int32) t => va_P D vwCl [(a0, .inr (5, [.int rf, .ref a1, .int sz, .ref a2, .ref a3, .ref a4, .int ac, .ref a5, .ref a6, .int u.2.1, .int u.2.2])), (a1, .inl (y 0, 120, .inl tx)), (a7, .inl (y 0, 78, .inl u.1))] t.heap ∧ va_D (va_A [(a0, .inr (5, [.int rf, .ref a1, .int sz, .ref a2, .ref a3, .ref a4, .int ac, .ref a5, .ref a6, .int sp, .int ou])), (a1, .inl (y 0, 120, .inl tx)), (a7, .inl (y 0, 78, .inl r))] zh) [(a0, .inr (5, [.int rf, .ref a1, .int sz, .ref a2, .ref a3, .ref a4, .int ac, .ref a5, .ref a6, .int u.2.1, .int u.2.2])), (a1, .inl (y 0, 120, .inl tx)), (a7, .inl (y 0, 78, .inl u.1))]) (va_A [(a0, .inr (5, [.int rf, .ref a1, .int sz, .ref a2, .ref a3, .ref a4, .int ac, .ref a5, .ref a6, .int sp, .int ou])), (a1, .inl (y 0, 120, .inl tx)), (a7, .inl (y 0, 78, .inl r))] zh)) 0 0 (va_A [(a0, .inr (5, [.int rf, .ref a1, .int sz, .ref a2, .ref a3, .ref a4, .int ac, .ref a5, .ref a6, .int sp, .int ou])), (a1, .inl (y 0, 120, .inl tx)), (a7, .inl (y 0, 78, .inl r))] zh) := by
  refine Met.ofW (cc := cX6_readText) (maxL := 5) (ret := (some .int)) (by decide) rfl ?_
  intro p e s m args below meth c s₁ B hml hv
  obtain ⟨rfl, hsz, hP, hE, hD⟩ := hv
  have hx := B.exec
  have hb := B.bytes
  have hr := B.returns
  have hts := atoms_spec (ws := wsX6_readText) B.pre
  have hown : s.vm.findClass RX6 = some m.cls := findClass_of_methodNamed B.named
  have hlocks := B.notSynchronized
  have w_0 := hts (.fieldLink RX6 87 "GapLinesModel" "spot" "I") (List.mem_cons_of_mem _ (List.mem_append_left _ (List.mem_append_left _ (List.mem_of_getElem? (i := 1) rfl))))
  have hi6 : ∀ w ∈ u_ws RX6 TX6 11, w ∈ wsX6_readText := fun w h => (List.mem_cons_of_mem _ (List.mem_append_right _ h))
  have w_2 := hts (.fieldLink RX6 80 "GapLinesModel" "size" "I") (List.mem_cons_of_mem _ (List.mem_append_left _ (List.mem_append_left _ (List.mem_of_getElem? (i := 2) rfl))))
  have w_3 := hts (.fieldLink RX6 92 "GapLinesModel" "out" "I") (List.mem_cons_of_mem _ (List.mem_append_left _ (List.mem_append_left _ (List.mem_of_getElem? (i := 0) rfl))))
  have w_4 := hts (.fieldLink RX6 7 "GapLinesModel" "text" "[I") (List.mem_cons_of_mem _ (List.mem_append_left _ (List.mem_append_left _ (List.mem_of_getElem? (i := 3) rfl))))
  subst hsz
  have hD := hD.self (sz := s.heap.size)
  generalize hAe : va_A [(a0, .inr (5, [.int rf, .ref a1, .int sz, .ref a2, .ref a3, .ref a4, .int ac, .ref a5, .ref a6, .int sp, .int ou])), (a1, .inl (y 0, 120, .inl tx)), (a7, .inl (y 0, 78, .inl r))] s.heap.size = A at hD ⊢
  have hA : ∀ q : Nat, s.heap.size ≤ q → A q := fun q h => by rw [← hAe]; exact Or.inr h
  have hS : va_S A s.heap s.heap [] := va_S.rf
  have hl := lv_entry ([.ref a0, .ref a7]) (n := 5) (Nat.le_of_ble_eq_true rfl)
  rw [lg_entry_eq]
  generalize (lg_sl ([.ref a0, .ref a7]) ++ List.replicate (5 - (lg_sl ([.ref a0, .ref a7])).length) Slot.unset).toArray = ls at hl ⊢
  have hl : lv_has ls 5 [(0, .ref a0), (1, .ref a7)] := hl
  have loop_99 : ∀ (n : Nat) (r_ : gR) (sp_ : Int32) (ou_ : Int32) (hs_ : 0 ≤ sp_.toInt) (on_ : okN r_), (sz.toInt - sp_.toInt).toNat < n → f_X6_readText rf sz ac sp ou tx r = f_X6_readText_L99 rf sz ac tx n r_ sp_ ou_ → ∀ (H : Heap) (locs : List Loc), va_P D vwCl [(a0, .inr (5, [.int rf, .ref a1, .int sz, .ref a2, .ref a3, .ref a4, .int ac, .ref a5, .ref a6, .int sp_, .int ou_])), (a1, .inl (y 0, 120, .inl tx)), (a7, .inl (y 0, 78, .inl r_))] H → va_D A [(a0, .inr (5, [.int rf, .ref a1, .int sz, .ref a2, .ref a3, .ref a4, .int ac, .ref a5, .ref a6, .int sp_, .int ou_])), (a1, .inl (y 0, 120, .inl tx)), (a7, .inl (y 0, 78, .inl r_))] → va_S A s.heap H locs → ∀ (ls : Array Slot), lv_has ls 5 [(0, .ref a0), (1, .ref a7)] → W p l e (headSpec wsX6_readText ({ frames := 5, cells := 0, slots := 0, locals := 115 })).room s m ([.ref a0, .ref a7] : List Value).toArray below meth c H locs 0 0 (MQ below (va_Qi (fun (v : Int32) (u : gR × Int32 × Int32) => f_X6_readText rf sz ac sp ou tx r = (v, u)) (fun (u : gR × Int32 × Int32) t => va_P D vwCl [(a0, .inr (5, [.int rf, .ref a1, .int sz, .ref a2, .ref a3, .ref a4, .int ac, .ref a5, .ref a6, .int u.2.1, .int u.2.2])), (a1, .inl (y 0, 120, .inl tx)), (a7, .inl (y 0, 78, .inl u.1))] t.heap ∧ va_D (A) [(a0, .inr (5, [.int rf, .ref a1, .int sz, .ref a2, .ref a3, .ref a4, .int ac, .ref a5, .ref a6, .int u.2.1, .int u.2.2])), (a1, .inl (y 0, 120, .inl tx)), (a7, .inl (y 0, 78, .inl u.1))]) A) ([.ref a0, .ref a7] : List Value).toArray s 0 0 A) (F0 m 99 ls []) := by
    intro n
    induction n with
    | zero =>
      intro r_ sp_ ou_ hs_ on_ hμ
      exact absurd hμ (Nat.not_lt_zero _)
    | succ n ih =>
      intro r_ sp_ ou_ hs_ on_ hμ hF H locs hP hD hS ls hl
      have hF := hF.trans (f_X6_readText_L99_s rf sz ac tx n r_ sp_ ou_)
      refine lv_aload_n hx hb dX6_readText_99 rfl (lv_at hl 0 rfl) ?_
      refine va_get (D := D) (ci := 5) (v := .int sp_) (C := RX6) (T := TX6) (N := 11) hx hb hts hi6 hown hE.1 hP 0 rfl rfl 9 (by decide) w_0 (fun _ h9 => h9) rfl dX6_readText_100 ?_
      refine lv_aload_n hx hb dX6_readText_103 rfl (lv_at hl 0 rfl) ?_
      refine va_get (D := D) (ci := 5) (v := .int sz) (C := RX6) (T := TX6) (N := 11) hx hb hts hi6 hown hE.1 hP 0 rfl rfl 2 (by decide) w_2 (fun _ h9 => h9) rfl dX6_readText_104 ?_
      refine lv_icmp_ge (tgt := 123) hx hb dX6_readText_107 (by decide) (fun c_1 => ?_) (fun c_1 => ?_)
      · have hF := hF.trans (if_pos c_1)
        refine lv_iconst (v := (-1)) hx hb dX6_readText_123 (by decide) ?_
        exact W.iret (v := (-1)) hx hb hr (fun t ht hW => ⟨⟨(-1), ⟨r_, sp_, ou_⟩, rfl, hF, ⟨by rw [ht]; exact hP, hD⟩⟩, hS.F ht⟩) hS.2.2 dX6_readText_124
      · have hF := hF.trans (if_neg c_1)
        refine lv_aload_n hx hb dX6_readText_110 rfl (lv_at hl 0 rfl) ?_
        refine lv_aload_n hx hb dX6_readText_111 rfl (lv_at hl 1 rfl) ?_
        refine xw_calli (va_runV (As := [.ref a7]) (rest := []) ⟨hx, hb, hml, hown, hts⟩ (c_X6_readCommand l D y a0 a1 a2 a3 a4 a5 a6 a7 H.size rf sz ac sp_ ou_ tx r_ hs_ (by assumption) hz2.2 on_) (cwV 1 hts gX6_readText_X6_readCommand rfl rfl rfl hd_X6_readCommand ⟨Nat.le_of_ble_eq_true rfl, Nat.le_of_ble_eq_true rfl⟩) (gV (q := (RX6, TX6, 11)) hE hP hD 0 rfl rfl) rfl rfl hl.1 rfl (lv_room (Nat.le_of_ble_eq_true rfl)) dX6_readText_112 ⟨Nat.le_of_ble_eq_true rfl, Nat.le_of_ble_eq_true rfl⟩) hP hD hS hA [0, 1, 2] rfl (by decide) (fun _ => rfl) (fun v4 u3 H locs h2 hP hD hS => ?_)
        obtain ⟨q5, eq5⟩ : ∃ z : Int32 × gR × Int32 × Int32, f_X6_readCommand rf sz ac sp_ ou_ tx r_ = z := ⟨_, rfl⟩
        obtain ⟨rfl, rfl⟩ : q5.1 = v4 ∧ q5.2 = u3 := ⟨by rw [← eq5, h2], by rw [← eq5, h2]⟩
        have hF := hF.trans (gLet_e eq5)
        have hP : va_P D vwCl [(a0, .inr (5, [.int rf, .ref a1, .int sz, .ref a2, .ref a3, .ref a4, .int ac, .ref a5, .ref a6, .int q5.2.2.1, .int q5.2.2.2])), (a1, .inl (y 0, 120, .inl tx)), (a7, .inl (y 0, 78, .inl q5.2.1))] H := hP
        have hD : va_D A [(a0, .inr (5, [.int rf, .ref a1, .int sz, .ref a2, .ref a3, .ref a4, .int ac, .ref a5, .ref a6, .int q5.2.2.1, .int q5.2.2.2])), (a1, .inl (y 0, 120, .inl tx)), (a7, .inl (y 0, 78, .inl q5.2.1))] := hD
        refine lv_if_ne (tgt := 99) hx hb dX6_readText_115 (by decide) (fun c_6 => ?_) (fun c_6 => ?_)
        · have hF := hF.trans (if_neg c_6)
          exact ih q5.2.1 q5.2.2.1 q5.2.2.2 (by rw [← eq5]; exact (rc_up _ _ _ _ _ _ _ hs_ (by assumption) on_).2.1) (by rw [← eq5]; exact (rc_up _ _ _ _ _ _ _ hs_ (by assumption) on_).1) ((sp_dec (by assumption) (by rw [← eq5]; exact (rc_up _ _ _ _ _ _ _ hs_ (by assumption) on_).2.2 (by rw [eq5]; assumption)) hμ)) hF _ _ hP hD hS ls (lv_sub hl [0, 1] rfl)
        · have hF := hF.trans (if_pos c_6)
          refine lv_aload_n hx hb dX6_readText_118 rfl (lv_at hl 0 rfl) ?_
          refine va_get (D := D) (ci := 5) (v := .int q5.2.2.1) (C := RX6) (T := TX6) (N := 11) hx hb hts hi6 hown hE.1 hP 0 rfl rfl 9 (by decide) w_0 (fun _ h9 => h9) rfl dX6_readText_119 ?_
          exact W.iret (v := q5.2.2.1) hx hb hr (fun t ht hW => ⟨⟨q5.2.2.1, ⟨q5.2.1, q5.2.2.1, q5.2.2.2⟩, rfl, hF, ⟨by rw [ht]; exact hP, hD⟩⟩, hS.F ht⟩) hS.2.2 dX6_readText_122
  have hF := f_X6_readText_s rf sz ac sp ou tx r
  refine lv_aload_n hx hb dX6_readText_0 rfl (lv_at hl 1 rfl) ?_
  refine xw_callv (va_runS (As := [.ref a7]) (rest := []) ⟨hx, hb, hml, hown, hts⟩ (c_X6_clear l D y a7 s.heap.size r) (va_cwS 1 hts gX6_readText_X6_clear rfl rfl rfl hd_X6_clear ⟨Nat.le_of_ble_eq_true rfl, Nat.le_of_ble_eq_true rfl⟩) (gS hE (hP.sub [2] rfl) (hD.sub [2] (by decide) rfl)) rfl rfl hl.1 rfl (lv_room (Nat.le_of_ble_eq_true rfl)) dX6_readText_1 ⟨Nat.le_of_ble_eq_true rfl, Nat.le_of_ble_eq_true rfl⟩) hP hD hS hA [2] rfl (by decide) (fun _ => rfl) (fun u8 H locs h7 hP hD hS => ?_)
  have hF := hF.trans (gLet_e h7)
  have hP : va_P D vwCl [(a0, .inr (5, [.int rf, .ref a1, .int sz, .ref a2, .ref a3, .ref a4, .int ac, .ref a5, .ref a6, .int sp, .int ou])), (a1, .inl (y 0, 120, .inl tx)), (a7, .inl (y 0, 78, .inl u8))] H := hP
  have hD : va_D A [(a0, .inr (5, [.int rf, .ref a1, .int sz, .ref a2, .ref a3, .ref a4, .int ac, .ref a5, .ref a6, .int sp, .int ou])), (a1, .inl (y 0, 120, .inl tx)), (a7, .inl (y 0, 78, .inl u8))] := hD
  refine lv_aload_n hx hb dX6_readText_4 rfl (lv_at hl 0 rfl) ?_
  refine lv_iconst (v := 0) hx hb dX6_readText_5 (by decide) ?_
  refine va_put (D := D) (ci := 5) (v := .int 0) (ty := .int) (C := RX6) (T := TX6) (N := 11) hx hb hts hi6 tyX6 tyX6_ok nmX6 hown hE.1 hP hD hS 0 rfl rfl 10 (by decide) w_3 (fun _ h9 => h9) rfl (by decide +kernel) rfl rfl (Nat.le_of_ble_eq_true rfl) dX6_readText_6 (fun H locs hP hD hS => ?_)
  have hP : va_P D vwCl [(a0, .inr (5, [.int rf, .ref a1, .int sz, .ref a2, .ref a3, .ref a4, .int ac, .ref a5, .ref a6, .int sp, .int 0])), (a1, .inl (y 0, 120, .inl tx)), (a7, .inl (y 0, 78, .inl u8))] H := hP
  have hD : va_D A [(a0, .inr (5, [.int rf, .ref a1, .int sz, .ref a2, .ref a3, .ref a4, .int ac, .ref a5, .ref a6, .int sp, .int 0])), (a1, .inl (y 0, 120, .inl tx)), (a7, .inl (y 0, 78, .inl u8))] := hD
  refine lv_aload_n hx hb dX6_readText_9 rfl (lv_at hl 0 rfl) ?_
  refine lv_iconst (v := 0) hx hb dX6_readText_10 (by decide) ?_
  refine va_put (D := D) (ci := 5) (v := .int 0) (ty := .int) (C := RX6) (T := TX6) (N := 11) hx hb hts hi6 tyX6 tyX6_ok nmX6 hown hE.1 hP hD hS 0 rfl rfl 9 (by decide) w_0 (fun _ h9 => h9) rfl (by decide +kernel) rfl rfl (Nat.le_of_ble_eq_true rfl) dX6_readText_11 (fun H locs hP hD hS => ?_)
  have hP : va_P D vwCl [(a0, .inr (5, [.int rf, .ref a1, .int sz, .ref a2, .ref a3, .ref a4, .int ac, .ref a5, .ref a6, .int 0, .int 0])), (a1, .inl (y 0, 120, .inl tx)), (a7, .inl (y 0, 78, .inl u8))] H := hP
  have hD : va_D A [(a0, .inr (5, [.int rf, .ref a1, .int sz, .ref a2, .ref a3, .ref a4, .int ac, .ref a5, .ref a6, .int 0, .int 0])), (a1, .inl (y 0, 120, .inl tx)), (a7, .inl (y 0, 78, .inl u8))] := hD
  refine lv_aload_n hx hb dX6_readText_14 rfl (lv_at hl 0 rfl) ?_
  refine va_get (D := D) (ci := 5) (v := .int sz) (C := RX6) (T := TX6) (N := 11) hx hb hts hi6 hown hE.1 hP 0 rfl rfl 2 (by decide) w_2 (fun _ h9 => h9) rfl dX6_readText_15 ?_
  refine lv_if_eq (tgt := 32) hx hb dX6_readText_18 (by decide) (fun c_9 => ?_) (fun c_9 => ?_)
  · have hF := hF.trans (if_pos c_9)
    refine lv_iconst (v := 0) hx hb dX6_readText_32 (by decide) ?_
    exact W.iret (v := 0) hx hb hr (fun t ht hW => ⟨⟨0, ⟨u8, 0, 0⟩, rfl, hF, ⟨by rw [ht]; exact hP, hD⟩⟩, hS.F ht⟩) hS.2.2 dX6_readText_33
  · have hF := hF.trans (if_neg c_9)
    refine lv_aload_n hx hb dX6_readText_21 rfl (lv_at hl 0 rfl) ?_
    refine va_get (D := D) (ci := 5) (v := .ref a1) (C := RX6) (T := TX6) (N := 11) hx hb hts hi6 hown hE.1 hP 0 rfl rfl 1 (by decide) w_4 (fun _ h9 => h9) rfl dX6_readText_22 ?_
    refine lv_iconst (v := 0) hx hb dX6_readText_25 (by decide) ?_
    refine xa_iald (k := 0) (v := tx 0) hx hb hE.1 hP 1 0 rfl rfl (xin (by decide)) rfl rfl dX6_readText_26 ?_
    refine lv_bipush (v := 76) hx hb dX6_readText_27 (by decide) ?_
    refine lv_icmp_eq (tgt := 34) hx hb dX6_readText_29 (by decide) (fun c_10 => ?_) (fun c_10 => ?_)
    · have hF := hF.trans (if_pos c_10)
      refine lv_aload_n hx hb dX6_readText_34 rfl (lv_at hl 0 rfl) ?_
      refine lv_iconst (v := 1) hx hb dX6_readText_35 (by decide) ?_
      refine va_put (D := D) (ci := 5) (v := .int 1) (ty := .int) (C := RX6) (T := TX6) (N := 11) hx hb hts hi6 tyX6 tyX6_ok nmX6 hown hE.1 hP hD hS 0 rfl rfl 9 (by decide) w_0 (fun _ h9 => h9) rfl (by decide +kernel) rfl rfl (Nat.le_of_ble_eq_true rfl) dX6_readText_36 (fun H locs hP hD hS => ?_)
      have hP : va_P D vwCl [(a0, .inr (5, [.int rf, .ref a1, .int sz, .ref a2, .ref a3, .ref a4, .int ac, .ref a5, .ref a6, .int 1, .int 0])), (a1, .inl (y 0, 120, .inl tx)), (a7, .inl (y 0, 78, .inl u8))] H := hP
      have hD : va_D A [(a0, .inr (5, [.int rf, .ref a1, .int sz, .ref a2, .ref a3, .ref a4, .int ac, .ref a5, .ref a6, .int 1, .int 0])), (a1, .inl (y 0, 120, .inl tx)), (a7, .inl (y 0, 78, .inl u8))] := hD
      refine lv_aload_n hx hb dX6_readText_39 rfl (lv_at hl 0 rfl) ?_
      refine lv_iconst (v := 0) hx hb dX6_readText_40 (by decide) ?_
      refine lv_iconst (v := 2) hx hb dX6_readText_41 (by decide) ?_
      refine lv_iconst (v := 4) hx hb dX6_readText_42 (by decide) ?_
      refine lv_bipush (v := 32) hx hb dX6_readText_43 (by decide) ?_
      refine xw_calli (va_runV (As := [.int 0, .int 2, .int 4, .int 32]) (rest := []) ⟨hx, hb, hml, hown, hts⟩ (c_X6_figures l D y a0 a1 a2 a3 a4 a5 a6 H.size rf sz ac 1 0 tx 0 2 4 32 (by decide) hz2.2) (cwV 4 hts gX6_readText_X6_figures rfl rfl rfl hd_X6_figures ⟨Nat.le_of_ble_eq_true rfl, Nat.le_of_ble_eq_true rfl⟩) (gV (q := (RX6, TX6, 11)) hE (hP.sub [0, 1] rfl) (hD.sub [0, 1] (by decide) rfl) 0 rfl rfl) rfl rfl hl.1 rfl (lv_room (Nat.le_of_ble_eq_true rfl)) dX6_readText_45 ⟨Nat.le_of_ble_eq_true rfl, Nat.le_of_ble_eq_true rfl⟩) hP hD hS hA [0, 1] rfl (by decide) (fun _ => rfl) (fun v13 u12 H locs h11 hP hD hS => ?_)
      obtain ⟨q14, eq14⟩ : ∃ z : Int32 × Int32, f_X6_figures rf sz ac 1 0 tx 0 2 4 32 = z := ⟨_, rfl⟩
      obtain ⟨rfl, rfl⟩ : q14.1 = v13 ∧ q14.2 = u12 := ⟨by rw [← eq14, h11], by rw [← eq14, h11]⟩
      have hF := hF.trans (gLet_e eq14)
      have hP : va_P D vwCl [(a0, .inr (5, [.int rf, .ref a1, .int sz, .ref a2, .ref a3, .ref a4, .int ac, .ref a5, .ref a6, .int q14.2, .int 0])), (a1, .inl (y 0, 120, .inl tx)), (a7, .inl (y 0, 78, .inl u8))] H := hP
      have hD : va_D A [(a0, .inr (5, [.int rf, .ref a1, .int sz, .ref a2, .ref a3, .ref a4, .int ac, .ref a5, .ref a6, .int q14.2, .int 0])), (a1, .inl (y 0, 120, .inl tx)), (a7, .inl (y 0, 78, .inl u8))] := hD
      refine lv_istore_n (lv' := [(2, .int q14.1), (0, .ref a0), (1, .ref a7)]) hx hb dX6_readText_48 rfl hl (by decide) rfl (fun ls hl => ?_)
      refine lv_aload_n hx hb dX6_readText_49 rfl (lv_at hl 1 rfl) ?_
      refine lv_iload_n hx hb dX6_readText_50 rfl (lv_at hl 0 rfl) ?_
      refine lv_iconst (v := 2) hx hb dX6_readText_51 (by decide) ?_
      refine lv_iconst (v := 1) hx hb dX6_readText_52 (by decide) ?_
      refine lv_bipush (v := 31) hx hb dX6_readText_53 (by decide) ?_
      refine xw_calli (va_runV (As := [.int q14.1, .int 2, .int 1, .int 31]) (rest := []) ⟨hx, hb, hml, hown, hts⟩ (c_X6_figures l D y a0 a1 a2 a3 a4 a5 a6 H.size rf sz ac q14.2 0 tx q14.1 2 1 31 (by rw [← eq14]; exact fg_nn _ _ _ _ _ _ _ _ _ _ (by decide)) hz2.2) (cwV 4 hts gX6_readText_X6_figures rfl rfl rfl hd_X6_figures ⟨Nat.le_of_ble_eq_true rfl, Nat.le_of_ble_eq_true rfl⟩) (gV (q := (RX6, TX6, 11)) hE (hP.sub [0, 1] rfl) (hD.sub [0, 1] (by decide) rfl) 0 rfl rfl) rfl rfl hl.1 rfl (lv_room (Nat.le_of_ble_eq_true rfl)) dX6_readText_55 ⟨Nat.le_of_ble_eq_true rfl, Nat.le_of_ble_eq_true rfl⟩) hP hD hS hA [0, 1] rfl (by decide) (fun _ => rfl) (fun v17 u16 H locs h15 hP hD hS => ?_)
      obtain ⟨q18, eq18⟩ : ∃ z : Int32 × Int32, f_X6_figures rf sz ac q14.2 0 tx q14.1 2 1 31 = z := ⟨_, rfl⟩
      obtain ⟨rfl, rfl⟩ : q18.1 = v17 ∧ q18.2 = u16 := ⟨by rw [← eq18, h15], by rw [← eq18, h15]⟩
      have hF := hF.trans (gLet_e eq18)
      have hP : va_P D vwCl [(a0, .inr (5, [.int rf, .ref a1, .int sz, .ref a2, .ref a3, .ref a4, .int ac, .ref a5, .ref a6, .int q18.2, .int 0])), (a1, .inl (y 0, 120, .inl tx)), (a7, .inl (y 0, 78, .inl u8))] H := hP
      have hD : va_D A [(a0, .inr (5, [.int rf, .ref a1, .int sz, .ref a2, .ref a3, .ref a4, .int ac, .ref a5, .ref a6, .int q18.2, .int 0])), (a1, .inl (y 0, 120, .inl tx)), (a7, .inl (y 0, 78, .inl u8))] := hD
      refine lv_istore_n (lv' := [(3, .int q18.1), (2, .int q14.1), (0, .ref a0), (1, .ref a7)]) hx hb dX6_readText_58 rfl hl (by decide) rfl (fun ls hl => ?_)
      refine lv_aload_n hx hb dX6_readText_59 rfl (lv_at hl 2 rfl) ?_
      refine lv_iload_n hx hb dX6_readText_60 rfl (lv_at hl 0 rfl) ?_
      refine lv_iconst (v := 1) hx hb dX6_readText_61 (by decide) ?_
      refine lv_iconst (v := 0) hx hb dX6_readText_62 (by decide) ?_
      refine lv_iconst (v := 4) hx hb dX6_readText_63 (by decide) ?_
      refine xw_calli (va_runV (As := [.int q18.1, .int 1, .int 0, .int 4]) (rest := []) ⟨hx, hb, hml, hown, hts⟩ (c_X6_figures l D y a0 a1 a2 a3 a4 a5 a6 H.size rf sz ac q18.2 0 tx q18.1 1 0 4 (by rw [← eq18]; exact fg_nn _ _ _ _ _ _ _ _ _ _ (by rw [← eq14]; exact fg_nn _ _ _ _ _ _ _ _ _ _ (by decide))) hz2.2) (cwV 4 hts gX6_readText_X6_figures rfl rfl rfl hd_X6_figures ⟨Nat.le_of_ble_eq_true rfl, Nat.le_of_ble_eq_true rfl⟩) (gV (q := (RX6, TX6, 11)) hE (hP.sub [0, 1] rfl) (hD.sub [0, 1] (by decide) rfl) 0 rfl rfl) rfl rfl hl.1 rfl (lv_room (Nat.le_of_ble_eq_true rfl)) dX6_readText_64 ⟨Nat.le_of_ble_eq_true rfl, Nat.le_of_ble_eq_true rfl⟩) hP hD hS hA [0, 1] rfl (by decide) (fun _ => rfl) (fun v21 u20 H locs h19 hP hD hS => ?_)
      obtain ⟨q22, eq22⟩ : ∃ z : Int32 × Int32, f_X6_figures rf sz ac q18.2 0 tx q18.1 1 0 4 = z := ⟨_, rfl⟩
      obtain ⟨rfl, rfl⟩ : q22.1 = v21 ∧ q22.2 = u20 := ⟨by rw [← eq22, h19], by rw [← eq22, h19]⟩
      have hF := hF.trans (gLet_e eq22)
      have hP : va_P D vwCl [(a0, .inr (5, [.int rf, .ref a1, .int sz, .ref a2, .ref a3, .ref a4, .int ac, .ref a5, .ref a6, .int q22.2, .int 0])), (a1, .inl (y 0, 120, .inl tx)), (a7, .inl (y 0, 78, .inl u8))] H := hP
      have hD : va_D A [(a0, .inr (5, [.int rf, .ref a1, .int sz, .ref a2, .ref a3, .ref a4, .int ac, .ref a5, .ref a6, .int q22.2, .int 0])), (a1, .inl (y 0, 120, .inl tx)), (a7, .inl (y 0, 78, .inl u8))] := hD
      refine lv_istore (lv' := [(4, .int q22.1), (3, .int q18.1), (2, .int q14.1), (0, .ref a0), (1, .ref a7)]) hx hb dX6_readText_67 hl (by decide) rfl (fun ls hl => ?_)
      refine lv_iload hx hb dX6_readText_69 (lv_at hl 0 rfl) ?_
      refine lv_iconst (v := (-1)) hx hb dX6_readText_71 (by decide) ?_
      refine lv_icmp_ne (tgt := 80) hx hb dX6_readText_72 (by decide) (fun c_23 => ?_) (fun c_23 => ?_)
      · have hF := hF.trans (if_neg c_23)
        refine lv_iload_n hx hb dX6_readText_80 rfl (lv_at hl 2 rfl) ?_
        refine lv_iload_n hx hb dX6_readText_81 rfl (lv_at hl 1 rfl) ?_
        refine lv_iload hx hb dX6_readText_82 (lv_at hl 0 rfl) ?_
        refine xs_calli (va_runS (As := [.int q14.1, .int q18.1, .int q22.1]) (rest := []) ⟨hx, hb, hml, hown, hts⟩ (c_X6_canMake l D y H.size q14.1 q18.1 q22.1) (va_cwS 3 hts gX6_readText_X6_canMake rfl rfl rfl hd_X6_canMake ⟨Nat.le_of_ble_eq_true rfl, Nat.le_of_ble_eq_true rfl⟩) (gS hE (hP.sub [] rfl) (hD.sub [] (by decide) rfl)) rfl rfl hl.1 rfl (lv_room (Nat.le_of_ble_eq_true rfl)) dX6_readText_84 ⟨Nat.le_of_ble_eq_true rfl, Nat.le_of_ble_eq_true rfl⟩) (fun v25 h24 => ?_)
        have hF := hF.trans (gLet_e h24)
        refine lv_if_eq (tgt := 99) hx hb dX6_readText_87 (by decide) (fun c_26 => ?_) (fun c_26 => ?_)
        · have hF := hF.trans (if_pos c_26)
          exact loop_99 _ u8 q22.2 0 ((by rw [← eq22]; exact fg_nn _ _ _ _ _ _ _ _ _ _ (by rw [← eq18]; exact fg_nn _ _ _ _ _ _ _ _ _ _ (by rw [← eq14]; exact fg_nn _ _ _ _ _ _ _ _ _ _ (by decide))))) ((by rw [← h7]; exact okN_X6_clear _)) (Nat.lt_succ_self _) hF _ _ hP hD hS ls (lv_sub hl [3, 4] rfl)
        · have hF := hF.trans (if_neg c_26)
          refine lv_aload_n hx hb dX6_readText_90 rfl (lv_at hl 4 rfl) ?_
          refine lv_iload_n hx hb dX6_readText_91 rfl (lv_at hl 2 rfl) ?_
          refine lv_iload_n hx hb dX6_readText_92 rfl (lv_at hl 1 rfl) ?_
          refine lv_iload hx hb dX6_readText_93 (lv_at hl 0 rfl) ?_
          refine xw_calli (va_runS (As := [.ref a7, .int q14.1, .int q18.1, .int q22.1]) (rest := []) ⟨hx, hb, hml, hown, hts⟩ (c_X6_makeOn l D y a7 H.size u8 q14.1 q18.1 q22.1 (cm_n0 h24 (by assumption))) (va_cwS 4 hts gX6_readText_X6_makeOn rfl rfl rfl hd_X6_makeOn ⟨Nat.le_of_ble_eq_true rfl, Nat.le_of_ble_eq_true rfl⟩) (gS hE (hP.sub [2] rfl) (hD.sub [2] (by decide) rfl)) rfl rfl hl.1 rfl (lv_room (Nat.le_of_ble_eq_true rfl)) dX6_readText_95 ⟨Nat.le_of_ble_eq_true rfl, Nat.le_of_ble_eq_true rfl⟩) hP hD hS hA [2] rfl (by decide) (fun _ => rfl) (fun v29 u28 H locs h27 hP hD hS => ?_)
          obtain ⟨q30, eq30⟩ : ∃ z : Int32 × gR, f_X6_makeOn u8 q14.1 q18.1 q22.1 = z := ⟨_, rfl⟩
          obtain ⟨rfl, rfl⟩ : q30.1 = v29 ∧ q30.2 = u28 := ⟨by rw [← eq30, h27], by rw [← eq30, h27]⟩
          have hF := hF.trans (gLet_e eq30)
          have hP : va_P D vwCl [(a0, .inr (5, [.int rf, .ref a1, .int sz, .ref a2, .ref a3, .ref a4, .int ac, .ref a5, .ref a6, .int q22.2, .int 0])), (a1, .inl (y 0, 120, .inl tx)), (a7, .inl (y 0, 78, .inl q30.2))] H := hP
          have hD : va_D A [(a0, .inr (5, [.int rf, .ref a1, .int sz, .ref a2, .ref a3, .ref a4, .int ac, .ref a5, .ref a6, .int q22.2, .int 0])), (a1, .inl (y 0, 120, .inl tx)), (a7, .inl (y 0, 78, .inl q30.2))] := hD
          refine lv_pop hx hb dX6_readText_98 rfl ?_
          exact loop_99 _ q30.2 q22.2 0 ((by rw [← eq22]; exact fg_nn _ _ _ _ _ _ _ _ _ _ (by rw [← eq18]; exact fg_nn _ _ _ _ _ _ _ _ _ _ (by rw [← eq14]; exact fg_nn _ _ _ _ _ _ _ _ _ _ (by decide))))) ((by rw [← eq30]; exact okN_X6_makeOn _ _ _ _ (cm_in h24 (by assumption)).1 (cm_in h24 (by assumption)).2)) (Nat.lt_succ_self _) hF _ _ hP hD hS ls (lv_sub hl [3, 4] rfl)
      · have hF := hF.trans (if_pos c_23)
        refine lv_aload_n hx hb dX6_readText_75 rfl (lv_at hl 3 rfl) ?_
        refine va_get (D := D) (ci := 5) (v := .int q22.2) (C := RX6) (T := TX6) (N := 11) hx hb hts hi6 hown hE.1 hP 0 rfl rfl 9 (by decide) w_0 (fun _ h9 => h9) rfl dX6_readText_76 ?_
        exact W.iret (v := q22.2) hx hb hr (fun t ht hW => ⟨⟨q22.2, ⟨u8, q22.2, 0⟩, rfl, hF, ⟨by rw [ht]; exact hP, hD⟩⟩, hS.F ht⟩) hS.2.2 dX6_readText_79
    · have hF := hF.trans (if_neg c_10)
      refine lv_iconst (v := 0) hx hb dX6_readText_32 (by decide) ?_
      exact W.iret (v := 0) hx hb hr (fun t ht hW => ⟨⟨0, ⟨u8, 0, 0⟩, rfl, hF, ⟨by rw [ht]; exact hP, hD⟩⟩, hS.F ht⟩) hS.2.2 dX6_readText_33
