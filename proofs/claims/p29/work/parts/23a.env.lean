/-! THE LAW: what the tables say -/
theorem law_nest : ∀ q ∈ gNest, Cond.methodLinkNest q.1 q.2.1 q.2.2 "GapLines" ∈ lw_tbl := by decide +kernel
theorem law_str : ∀ q ∈ xStr, Cond.stringRef RX5 q.1 q.2 ∈ lw_tbl := by decide +kernel
theorem law_arr {A : Array Value} {s : State} {ty : FieldType} (hp : ∀ C : String, ty ≠ .object C) (h : (Cond.arrayClass ty).before A s = true) : ∃ cA : ClassId, ArrOfT s cA ty ∧ va_RA s cA ty := by
  obtain ⟨c, k, comp, f1, f2, f3⟩ := Cond.arrayClass_spec h
  refine ⟨c, fun N z => ⟨(fun k h => by cases h), k, f2, comp, f3⟩, ?_⟩
  unfold va_RA
  split
  · exact absurd rfl (hp _)
  · exact f1
theorem law_arrO {A : Array Value} {s : State} {C : String} (h : (Cond.arrayOver (.object C)).before A s = true) : ∃ cA : ClassId, ArrOfT s cA (.object C) ∧ va_RA s cA (.object C) := by
  obtain ⟨comp, c, k, f1, f2, f3, f4, f5⟩ := Cond.arrayOver_spec h
  exact ⟨c, fun N z => ⟨(fun k h => by cases h), k, f3, comp, f4⟩, k, comp, f3, f4, f1, f5⟩
set_option maxHeartbeats 4000000 in
set_option maxRecDepth 100000 in
theorem law_env {s : State} {b : Nat} (hts : ∀ w ∈ lw_tbl, w.before #[Value.ref b] s = true) (hgv : (Jvm.Cond.and given_1 narrow_1).before #[Value.ref b] s = true) : ∃ (D : va_G) (y : Nat → ClassId), gE D y s ∧ xE s ∧ lNc s ∧ xZ (fun q : Nat => s.heap.size ≤ q) s s.heap := by
  obtain ⟨c0, i0, k0⟩ := u_known (C := RX0) (T := TX0) (N := 3) (n := 3) hts inX0 (hts (.instantiable RX0 3) (by decide +kernel))
  obtain ⟨c2, i2, k2⟩ := u_known (C := RX2) (T := TX2) (N := 2) (n := 2) hts inX2 (hts (.instantiable RX2 2) (by decide +kernel))
  obtain ⟨c3, i3, k3⟩ := u_known (C := RX3) (T := TX3) (N := 15) (n := 15) hts inX3 (hts (.instantiable RX3 15) (by decide +kernel))
  obtain ⟨c4, i4, k4⟩ := u_known (C := RX4) (T := TX4) (N := 2) (n := 2) hts inX4 (hts (.instantiable RX4 2) (by decide +kernel))
  obtain ⟨c5, i5, k5⟩ := u_known (C := RX5) (T := TX5) (N := 5) (n := 5) hts inX5 (hts (.instantiable RX5 5) (by decide +kernel))
  obtain ⟨y0, z0⟩ := law_arr (ty := .int) (fun C h => by cases h) (hts (.arrayClass .int) (by decide +kernel))
  obtain ⟨y1, z1⟩ := law_arr (ty := .char) (fun C h => by cases h) (hts (.arrayClass .char) (by decide +kernel))
  obtain ⟨y2, z2⟩ := law_arr (ty := .boolean) (fun C h => by cases h) (hts (.arrayClass .boolean) (by decide +kernel))
  obtain ⟨y3, z3⟩ := law_arrO (C := RX3) (hts (.arrayOver (.object RX3)) (by decide +kernel))
  have hs := flat_of_before _ hgv
  have hK : va_K (fun k => match k with | 0 => c0 | 1 => c2 | 2 => c3 | 3 => c4 | _ => c5, fun k => match k with | 0 => i0 | 1 => i2 | 2 => i3 | 3 => i4 | _ => i5) vwCl (gT (fun k => match k with | 0 => y0 | 1 => y1 | 2 => y2 | _ => y3)) s := by
    refine ⟨fun k q hq => ?_, fun k q hq => ?_⟩
    · match k, hq with
      | 0, hq => cases hq; exact k0
      | 1, hq => cases hq; exact k2
      | 2, hq => cases hq; exact k3
      | 3, hq => cases hq; exact k4
      | 4, hq => cases hq; exact k5
      | k + 5, hq => cases hq
    · match k, hq with
      | 0, hq => cases hq; exact z0
      | 1, hq => cases hq; exact z1
      | 2, hq => cases hq; exact z2
      | 3, hq => cases hq; exact z3
      | k + 4, hq => cases hq
  refine ⟨_, _, ⟨hK, fun q hq => va_Nw.of rfl (hts _ (law_nest q hq)), va_AO.of (hts (.arrayOver (.object RX3)) (by decide +kernel))⟩, ⟨⟨⟨va_Nw.of rfl (hts (.castable "java/lang/IllegalArgumentException" "java/lang/IllegalArgumentException") (by decide +kernel)), va_Nw.of rfl (hts (.castable "java/lang/IllegalStateException" "java/lang/IllegalStateException") (by decide +kernel)), va_Nw.of rfl (hts (.castable "java/lang/IndexOutOfBoundsException" "java/lang/IndexOutOfBoundsException") (by decide +kernel))⟩, va_Nw.of rfl (hts (.declares (Bundle.initS "java/lang/RuntimeException")) (by decide +kernel)), va_Nw.of rfl (hts (.declares (Bundle.initS "java/lang/Exception")) (by decide +kernel)), va_Nw.of rfl (hts (.declares (Bundle.initS "java/lang/Throwable")) (by decide +kernel))⟩, fun q hq => ?_⟩, ⟨⟨va_Nc.of (hs _ (by decide +kernel)), va_Nc.of (hs _ (by decide +kernel))⟩, ⟨va_Nc.of (hs _ (by decide +kernel)), va_Nc.of (hs _ (by decide +kernel))⟩, ⟨va_Nc.of (hs _ (by decide +kernel)), va_Nc.of (hs _ (by decide +kernel))⟩⟩, ⟨vx_Zqof (hts (.laysStatic Bundle.tN "UNASSIGNED_STACK" Bundle.steD) (by decide +kernel)) (hts (.initialized Bundle.tN) (by decide +kernel)) (hs _ (by decide +kernel)) (fun a h => Nat.not_le.mpr h), vx_Zqof (hts (.laysStatic Bundle.tN "SUPPRESSED_SENTINEL" Bundle.listD) (by decide +kernel)) (hts (.initialized Bundle.tN) (by decide +kernel)) (hs _ (by decide +kernel)) (fun a h => Nat.not_le.mpr h)⟩⟩
  have h := hts _ (law_str q hq)
  obtain ⟨cC, kC, hfc, -⟩ := Cond.instantiable_spec (hts (.instantiable RX5 5) (by decide +kernel))
  obtain ⟨k, cf, i, a, -, -, -, -, -, ev⟩ := Cond.stringRef_spec hfc h
  exact ⟨a, vk_R.of h ev⟩
