/-! THE LAW'S OWN METHODS: each asks the class, and catches -/
theorem xc_E {E : String} (h : xc E ≠ 0) : E = "java/lang/IllegalArgumentException" ∨ E = "java/lang/IllegalStateException" ∨ E = "java/lang/IndexOutOfBoundsException" := by
  unfold xc at h
  by_cases h1 : E = "java/lang/IllegalArgumentException"
  · exact Or.inl h1
  · rw [if_neg h1] at h
    by_cases h2 : E = "java/lang/IllegalStateException"
    · exact Or.inr (Or.inl h2)
    · rw [if_neg h2] at h
      by_cases h3 : E = "java/lang/IndexOutOfBoundsException"
      · exact Or.inr (Or.inr h3)
      · rw [if_neg h3] at h; exact absurd rfl h
/-- none of the three exceptions is one of the others -/
def lNc (U : State) : Prop := (va_Nc "java/lang/IllegalArgumentException" "java/lang/IllegalStateException" U ∧ va_Nc "java/lang/IllegalArgumentException" "java/lang/IndexOutOfBoundsException" U) ∧ (va_Nc "java/lang/IllegalStateException" "java/lang/IllegalArgumentException" U ∧ va_Nc "java/lang/IllegalStateException" "java/lang/IndexOutOfBoundsException" U) ∧ (va_Nc "java/lang/IndexOutOfBoundsException" "java/lang/IllegalArgumentException" U ∧ va_Nc "java/lang/IndexOutOfBoundsException" "java/lang/IllegalStateException" U)
theorem lNc_warm {s U : State} (hW : s.WarmedH U.vm) (h : lNc s) : lNc U := ⟨⟨h.1.1.moved hW.alike, h.1.2.moved hW.alike⟩, ⟨h.2.1.1.moved hW.alike, h.2.1.2.moved hW.alike⟩, ⟨h.2.2.1.moved hW.alike, h.2.2.2.moved hW.alike⟩⟩
def lP (D : va_G) (y : Nat → ClassId) (av : List Value) (sz : Nat) (WS : va_W) : Array Value → State → Prop := fun a U => xP D y av sz WS a U ∧ lNc U
theorem lP_blind {D : va_G} {y : Nat → ClassId} {av : List Value} {sz : Nat} {WS : va_W} : FrameBlind (lP D y av sz WS) := fun a U g mk q => ⟨xP_blind a U g mk q.1, lNc_warm (s := U) (State.WarmedH.refl U) q.2⟩
theorem lS {D : va_G} {y : Nat → ClassId} {As : List Value} {wc : va_W} {H : Heap} {A : Nat → Prop} {s : State} {locs : List Loc} (hE : gE D y s) (hXE : xE s) (hLN : lNc s) (hXZ : xZ A s s.heap) (hS : va_S A s.heap H locs) (hA : ∀ q : Nat, s.heap.size ≤ q → A q) (hP : va_P D vwCl wc H) (hD : va_D A wc) : PreS s H (lP D y As H.size wc) As :=
  ⟨lP_blind, fun U hU hW => ⟨(xS hE hXE hXZ hS hA hP hD).2 U hU hW, lNc_warm hW hLN⟩⟩
theorem xL_of {l : Launch} {y : MethodName} {ws : List Cond} {rm : Room} {Pc : Array Value → State → Prop} {Qc : Array Value → State → Outcome → State → Prop} {mc ms : Nat} {free : Addr → Prop} (h : vx_Met l y ws rm Pc Qc (fun _ _ _ => False) mc ms free) : Met l y ws rm Pc Qc mc ms free :=
  MetFree.mono h (fun _ _ h => h) (fun _ _ _ _ _ h => h) (fun a st o t _ hq => by
    rcases hq with h | ⟨q, -, E, ce, L, hx, -⟩
    · exact h
    · exact hx.elim)
/-- behind a call that took a part of the world, and hands it back with other cells -/
theorem xw_joinE {A0 : Nat → Prop} {D : va_G} {cl : List vw_C} {ex wc w1 : va_W} {H H1 : Heap} (hP : va_P D cl (ex ++ wc) H) (hD : va_D A0 (ex ++ wc)) (hk : ∀ q : Nat, q < H.size → ¬ va_A wc H.size q → H1[q]? = H[q]?) (hF : ∀ q, va_A wc H.size q → A0 q) (hP1 : va_P D cl w1 H1) (hD1 : va_D (va_A wc H.size) w1) : va_P D cl (ex ++ w1) H1 ∧ va_D A0 (ex ++ w1) := by
  obtain ⟨n1, n2⟩ := xa_nd.mp hD
  obtain ⟨m1, m2⟩ := xa_nd.mp hD1
  rw [List.map_append, List.nodup_append] at n1
  have hex : ∀ q ∈ ex, q.1 < H.size ∧ ¬ va_A wc H.size q.1 := by
    intro q hq
    have h1 := (xa_mem.mp hP q (List.mem_append_left _ hq)).lt
    refine ⟨h1, ?_⟩
    rintro (⟨k, e, h⟩ | h)
    · exact n1.2.2 _ (List.mem_map.mpr ⟨q, hq, rfl⟩) _ (List.mem_map.mpr ⟨_, List.mem_of_getElem? h, rfl⟩) rfl
    · exact absurd h1 (Nat.not_lt.mpr h)
  refine ⟨xa_mem.mpr fun q hq => ?_, xa_nd.mpr ⟨?_, fun q hq => ?_⟩⟩
  · rcases List.mem_append.mp hq with h | h
    · exact (xa_mem.mp hP q (List.mem_append_left _ h)).kept (hk q.1 (hex q h).1 (hex q h).2)
    · exact xa_mem.mp hP1 q h
  · rw [List.map_append, List.nodup_append]
    refine ⟨n1.1, m1, ?_⟩
    intro a ha b hb e
    obtain ⟨q1, h1, e1⟩ := List.mem_map.mp ha
    obtain ⟨q2, h2, e2⟩ := List.mem_map.mp hb
    refine (hex q1 h1).2 ?_
    rw [e1, e, ← e2]
    exact m2 q2 h2
  · rcases List.mem_append.mp hq with h | h
    · exact n2 q (List.mem_append_left _ h)
    · exact hF _ (m2 q h)
theorem xw_freeE {A0 : Nat → Prop} {ex wc : va_W} {H0 H : Heap} {locs : List Loc} (hD : va_D A0 (ex ++ wc)) (hS : va_S A0 H0 H locs) (hA : ∀ q : Nat, H0.size ≤ q → A0 q) : ∀ q, va_A wc H.size q → A0 q := by
  rintro q (⟨k, e, h⟩ | h)
  · exact (xa_nd.mp hD).2 _ (List.mem_append_right _ (List.mem_of_getElem? h))
  · exact hA q (Nat.le_trans hS.1 h)
section XL
variable {p : Program} {l : Launch} {e : Env} {R : Room} {s : State} {m : MethodId} {args : Array Value} {below : List Frame} {meth : Method} {c : Code} {H : Heap} {locs : List Loc} {cells slots : Nat} {Q : State → Prop}
variable {pc : Nat} {ls : Array Slot} {st0 rest : List Value} {a : Array Value} {A0 : Nat → Prop} {H0 : Heap} {D : va_G} {ws wc ex : va_W} {mc ms : Nat}
/-- a call that answers or throws, its cells at their places -/
theorem xq_calli {S : Type} {post : Int32 → S → Prop} {px : String → S → Prop} {w1 : S → va_W} (hr : vx_Run p l e R s m args below meth c H locs cells slots mc ms (F0 m pc ls st0) rest (va_Qi post (fun u t => va_P D vwCl (w1 u) t.heap ∧ va_D (va_A wc H.size) (w1 u)) (va_A wc H.size) a) (vx_X (fun _ : S => True) (fun E u t => px E u ∧ va_P D vwCl (w1 u) t.heap ∧ va_D (va_A wc H.size) (w1 u)) (va_A wc H.size)) (va_A wc H.size)) (hP : va_P D vwCl ws H) (hD : va_D A0 ws) (hS : va_S A0 H0 H locs) (hA : ∀ q : Nat, H0.size ≤ q → A0 q) (is : List Nat) (hC : is.map (fun i => ws[i]?) = wc.map some) (hn : va_nd is = true) (hf : ∀ u, (w1 u).map (fun q => q.1) = wc.map (fun q => q.1))
    (kx : ∀ (E : String) (ce : Cell) (q9 : Addr) (u : S) (H1 : Heap) (locs1 : List Loc), px E u → va_P D vwCl (xa_sets ws is (w1 u)) H1 → va_D A0 (xa_sets ws is (w1 u)) → va_S A0 H0 H1 locs1 → H1[q9]? = some ce → ce.vm = .none → s.vm.findClass E = some ce.cls → vx_W p l e R s m args below meth c H1 locs1 (cells + mc) (slots + ms) Q (F0 m pc ls rest) q9)
    (kk : ∀ (r : Int32) (u : S) (H1 : Heap) (locs1 : List Loc), post r u → va_P D vwCl (xa_sets ws is (w1 u)) H1 → va_D A0 (xa_sets ws is (w1 u)) → va_S A0 H0 H1 locs1 → W p l e R s m args below meth c H1 locs1 (cells + mc) (slots + ms) Q (F0 m (pc + 3) ls (.int r :: rest))) : W p l e R s m args below meth c H locs cells slots Q (F0 m pc ls st0) := by
  have hFc := va_free hD hS hA is hC
  refine vx_calli hr hS (fun q _ h => hFc q h) hFc (fun q _ h => hFc q h) (fun E ce q9 u t H1 locs1 ht hvm _ hB hz1 hk1 hS1 h7 h8 h9 => ?_) (fun r u t H1 locs1 ht hvm hw hB hz1 hk1 hS1 => ?_)
  · obtain ⟨e1, hP1, hD1⟩ := hB
    rw [ht] at hP1
    obtain ⟨g1, g2⟩ := xa_join hP hD is hC hn (hf u) hk1 hP1
    exact kx E ce q9 u H1 locs1 e1 g1 g2 hS1 h7 h8 h9
  · obtain ⟨hP1, hD1⟩ := hB
    rw [ht] at hP1
    obtain ⟨g1, g2⟩ := xa_join hP hD is hC hn (hf u) hk1 hP1
    exact kk r u H1 locs1 hw g1 g2 hS1
/-- the same, where the callee takes all but some cells ahead, and its pool may lie elsewhere behind -/
theorem xq_callEi {S G : Type} {post : Int32 → S → Prop} {px : String → S → Prop} {w1 : S → G → G → va_W} (hr : vx_Run p l e R s m args below meth c H locs cells slots mc ms (F0 m pc ls st0) rest (va_Qi post (fun u t => ∃ g1 g2, va_P D vwCl (w1 u g1 g2) t.heap ∧ va_D (va_A wc H.size) (w1 u g1 g2)) (va_A wc H.size) a) (vx_X (fun _ : S => True) (fun E u t => px E u ∧ ∃ g1 g2, va_P D vwCl (w1 u g1 g2) t.heap ∧ va_D (va_A wc H.size) (w1 u g1 g2)) (va_A wc H.size)) (va_A wc H.size)) (hP : va_P D vwCl (ex ++ wc) H) (hD : va_D A0 (ex ++ wc)) (hS : va_S A0 H0 H locs) (hA : ∀ q : Nat, H0.size ≤ q → A0 q)
    (kx : ∀ (E : String) (ce : Cell) (q9 : Addr) (u : S) (g1 g2 : G) (H1 : Heap) (locs1 : List Loc), px E u → va_P D vwCl (ex ++ w1 u g1 g2) H1 → va_D A0 (ex ++ w1 u g1 g2) → va_S A0 H0 H1 locs1 → H1[q9]? = some ce → ce.vm = .none → s.vm.findClass E = some ce.cls → vx_W p l e R s m args below meth c H1 locs1 (cells + mc) (slots + ms) Q (F0 m pc ls rest) q9)
    (kk : ∀ (r : Int32) (u : S) (g1 g2 : G) (H1 : Heap) (locs1 : List Loc), post r u → va_P D vwCl (ex ++ w1 u g1 g2) H1 → va_D A0 (ex ++ w1 u g1 g2) → va_S A0 H0 H1 locs1 → W p l e R s m args below meth c H1 locs1 (cells + mc) (slots + ms) Q (F0 m (pc + 3) ls (.int r :: rest))) : W p l e R s m args below meth c H locs cells slots Q (F0 m pc ls st0) := by
  have hFc := xw_freeE hD hS hA
  refine vx_calli hr hS (fun q _ h => hFc q h) hFc (fun q _ h => hFc q h) (fun E ce q9 u t H1 locs1 ht hvm _ hB hz1 hk1 hS1 h7 h8 h9 => ?_) (fun r u t H1 locs1 ht hvm hw hB hz1 hk1 hS1 => ?_)
  · obtain ⟨e1, i1, i2, hP1, hD1⟩ := hB
    rw [ht] at hP1
    obtain ⟨g1, g2⟩ := xw_joinE hP hD hk1 hFc hP1 hD1
    exact kx E ce q9 u i1 i2 H1 locs1 e1 g1 g2 hS1 h7 h8 h9
  · obtain ⟨i1, i2, hP1, hD1⟩ := hB
    rw [ht] at hP1
    obtain ⟨g1, g2⟩ := xw_joinE hP hD hk1 hFc hP1 hD1
    exact kk r u i1 i2 H1 locs1 hw g1 g2 hS1
end XL
section XLW
variable {p : Program} {l : Launch} {e : Env} {R : Room} {s : State} {m : MethodId} {args : Array Value} {below : List Frame} {meth : Method} {c : Code} {H : Heap} {locs : List Loc} {cells slots : Nat} {Q : State → Prop}
variable {pc : Nat} {ls : Array Slot} {st0 rest : List Value} {a : Array Value} {A0 : Nat → Prop} {H0 : Heap} {D : va_G} {ws wc ex : va_W} {mc ms : Nat}
/-- a call that answers, its cells at their places, new cells besides -/
theorem xl_calli {S : Type} {post : Int32 → S → Prop} {w1 : S → va_W} (hr : va_Run p l e R s m args below meth c H locs cells slots mc ms (F0 m pc ls st0) rest (va_Qi post (fun u t => va_P D vwCl (w1 u) t.heap ∧ va_D (va_A wc H.size) (w1 u)) (va_A wc H.size) a) (va_A wc H.size)) (hP : va_P D vwCl ws H) (hD : va_D A0 ws) (hS : va_S A0 H0 H locs) (hA : ∀ q : Nat, H0.size ≤ q → A0 q) (is : List Nat) (hC : is.map (fun i => ws[i]?) = wc.map some) (hn : va_nd is = true) (hf : ∀ u, (w1 u).map (fun q => q.1) = wc.map (fun q => q.1))
    (kk : ∀ (r : Int32) (u : S) (H1 : Heap) (locs1 : List Loc), post r u → va_P D vwCl (xa_sets ws is (w1 u)) H1 → va_D A0 (xa_sets ws is (w1 u)) → va_S A0 H0 H1 locs1 → W p l e R s m args below meth c H1 locs1 (cells + mc) (slots + ms) Q (F0 m (pc + 3) ls (.int r :: rest))) : W p l e R s m args below meth c H locs cells slots Q (F0 m pc ls st0) := by
  have hFc := va_free hD hS hA is hC
  refine va_calli hr hS (fun q _ h => hFc q h) hFc (fun r u t H1 locs1 ht hvm hw hB hz1 hk1 hS1 => ?_)
  obtain ⟨hP1, hD1⟩ := hB
  rw [ht] at hP1
  obtain ⟨h1, h2⟩ := xa_join hP hD is hC hn (hf u) hk1 hP1
  exact kk r u H1 locs1 hw h1 h2 hS1
/-- a call that takes all but some cells ahead, and its pool may lie elsewhere behind -/
theorem xl_callEi {S G : Type} {post : Int32 → S → Prop} {w1 : S → G → G → va_W} (hr : va_Run p l e R s m args below meth c H locs cells slots mc ms (F0 m pc ls st0) rest (va_Qi post (fun u t => ∃ g1 g2, va_P D vwCl (w1 u g1 g2) t.heap ∧ va_D (va_A wc H.size) (w1 u g1 g2)) (va_A wc H.size) a) (va_A wc H.size)) (hP : va_P D vwCl (ex ++ wc) H) (hD : va_D A0 (ex ++ wc)) (hS : va_S A0 H0 H locs) (hA : ∀ q : Nat, H0.size ≤ q → A0 q)
    (kk : ∀ (r : Int32) (u : S) (g1 g2 : G) (H1 : Heap) (locs1 : List Loc), post r u → va_P D vwCl (ex ++ w1 u g1 g2) H1 → va_D A0 (ex ++ w1 u g1 g2) → va_S A0 H0 H1 locs1 → W p l e R s m args below meth c H1 locs1 (cells + mc) (slots + ms) Q (F0 m (pc + 3) ls (.int r :: rest))) : W p l e R s m args below meth c H locs cells slots Q (F0 m pc ls st0) := by
  have hFc := xw_freeE hD hS hA
  refine va_calli hr hS (fun q _ h => hFc q h) hFc (fun r u t H1 locs1 ht hvm hw hB hz1 hk1 hS1 => ?_)
  obtain ⟨i1, i2, hP1, hD1⟩ := hB
  rw [ht] at hP1
  obtain ⟨g1, g2⟩ := xw_joinE hP hD hk1 hFc hP1 hD1
  exact kk r u i1 i2 H1 locs1 hw g1 g2 hS1
end XLW
theorem law_subE {D : va_G} {cl : List vw_C} {ex wc : va_W} {H : Heap} (hP : va_P D cl (ex ++ wc) H) : va_P D cl wc H := xa_mem.mpr fun q hq => xa_mem.mp hP q (List.mem_append_right _ hq)
theorem law_subD {A : Nat → Prop} {ex wc : va_W} (hD : va_D A (ex ++ wc)) : va_D A wc := by
  obtain ⟨n1, n2⟩ := xa_nd.mp hD
  rw [List.map_append, List.nodup_append] at n1
  exact xa_nd.mpr ⟨n1.2.1, fun q hq => n2 q (List.mem_append_right _ hq)⟩
