/-! METHODS THAT THROW: what they take besides, their calls and their ends -/
abbrev xN : List String := ["java/lang/RuntimeException", "java/lang/Exception"]
/-- the exceptions' numbers -/
def xc (E : String) : Nat := if E = "java/lang/IllegalArgumentException" then 1 else if E = "java/lang/IllegalStateException" then 2 else if E = "java/lang/IndexOutOfBoundsException" then 3 else 0
theorem xc_IA : xc "java/lang/IllegalArgumentException" = 1 := by decide +kernel
theorem xc_IS : xc "java/lang/IllegalStateException" = 2 := by decide +kernel
theorem xc_IO : xc "java/lang/IndexOutOfBoundsException" = 3 := by decide +kernel
def xStr : List (Nat × String) := [(42, "no such character"), (53, "the text is full"), (67, "the text is not a story"), (80, "no such number"), (115, "no store has such lines and such a key"), (117, "no store has so many spare media"), (131, "no such value"), (137, "the store is dead"), (152, "not 1 to 50 times"), (167, "no such setting, or it has no such value"), (177, "no state is remembered"), (185, "the setting has no such value"), (194, "not 0 to 9999 moves"), (199, "not 1 to 3 commands"), (205, "the script has too many digits or is negative"), (215, "not 1 to 300 writes"), (244, "nothing has been saved in this slot"), (251, "no such line"), (257, "no such place"), (259, "there is no store"), (261, "no such setting"), (266, "not 1 to 500 times"), (271, "no such save slot")]
def xDc : List Cond := [.declares (Bundle.initS "java/lang/RuntimeException"), .declares (Bundle.initS "java/lang/Exception"), .declares (Bundle.initS "java/lang/Throwable")]
def xBad (E : String) : List Cond := .castable E E :: xDc
def xE (U : State) : Prop := ((va_Nw (.castable "java/lang/IllegalArgumentException" "java/lang/IllegalArgumentException") U ∧ va_Nw (.castable "java/lang/IllegalStateException" "java/lang/IllegalStateException") U ∧ va_Nw (.castable "java/lang/IndexOutOfBoundsException" "java/lang/IndexOutOfBoundsException") U) ∧ va_Nw (.declares (Bundle.initS "java/lang/RuntimeException")) U ∧ va_Nw (.declares (Bundle.initS "java/lang/Exception")) U ∧ va_Nw (.declares (Bundle.initS "java/lang/Throwable")) U) ∧ ∀ q ∈ xStr, ∃ a, vk_R RX5 q.1 q.2 a U
theorem xE_warm {s U : State} (hW : s.WarmedH U.vm) (h : xE s) : xE U := ⟨⟨⟨va_Nw.warmC hW h.1.1.1, va_Nw.warmC hW h.1.1.2.1, va_Nw.warmC hW h.1.1.2.2⟩, va_Nw.warmD hW h.1.2.1, va_Nw.warmD hW h.1.2.2.1, va_Nw.warmD hW h.1.2.2.2⟩, fun q hq => by obtain ⟨a, ha⟩ := h.2 q hq; exact ⟨a, vk_R.warm hW ha⟩⟩
theorem xE_bad {U : State} {args : Array Value} {E : String} (h : xE U) (hc : va_Nw (.castable E E) U) : ∀ w ∈ xBad E, w.before args U = true := vx_c (hc.use rfl) (vx_c (h.1.2.1.use rfl) (vx_c (h.1.2.2.1.use rfl) (vx_c (h.1.2.2.2.use rfl) vx_n)))
def xZ (A : Nat → Prop) (U : State) (H : Heap) : Prop := vx_Zq Bundle.tN "UNASSIGNED_STACK" Bundle.steD A U H ∧ vx_Zq Bundle.tN "SUPPRESSED_SENTINEL" Bundle.listD A U H
theorem xZ_in {A B : Nat → Prop} {s U : State} {H : Heap} {locs : List Loc} (h : xZ A s s.heap) (hS : va_S A s.heap H locs) (hAB : ∀ q, B q → A q) (hU : U.heap = H) (hW : s.WarmedH U.vm) : xZ B U U.heap := by
  rw [hU]
  exact ⟨vx_Zq.moved hW.alike ((h.1.kept hS.2.1).narrow hAB), vx_Zq.moved hW.alike ((h.2.kept hS.2.1).narrow hAB)⟩
def xP (D : va_G) (y : Nat → ClassId) (av : List Value) (sz : Nat) (WS : va_W) : Array Value → State → Prop := fun a U => gP D y av sz WS a U ∧ xE U ∧ xZ (va_A WS sz) U U.heap
theorem xP_blind {D : va_G} {y : Nat → ClassId} {av : List Value} {sz : Nat} {WS : va_W} : FrameBlind (xP D y av sz WS) := fun a U g mk q => ⟨gP_blind a U g mk q.1, xE_warm (s := U) (State.WarmedH.refl U) q.2.1, ⟨vx_Zq.moved (State.WarmedH.refl U).alike q.2.2.1, vx_Zq.moved (State.WarmedH.refl U).alike q.2.2.2⟩⟩
section XT
variable {D : va_G} {y : Nat → ClassId} {As : List Value} {wc : va_W} {H : Heap} {A : Nat → Prop} {s : State} {locs : List Loc}
theorem xV {b ci : Nat} {fs : List Value} {q : vw_C} (hE : gE D y s) (hXE : xE s) (hXZ : xZ A s s.heap) (hS : va_S A s.heap H locs) (hA : ∀ q : Nat, s.heap.size ≤ q → A q) (hP : va_P D vwCl wc H) (hD : va_D A wc) (q0 : Nat) (he : wc[q0]? = some (b, .inr (ci, fs))) (hc : vwCl[ci]? = some q) : PreV s H q.1 b (xP D y (.ref b :: As) H.size wc) As :=
  ⟨xP_blind, va_recv hE.1 hP hc he, fun U hU hW => ⟨gP_in hE hP hD U hU hW, xE_warm hW hXE, xZ_in hXZ hS (va_freeW hD hS hA) hU hW⟩⟩
theorem xS (hE : gE D y s) (hXE : xE s) (hXZ : xZ A s s.heap) (hS : va_S A s.heap H locs) (hA : ∀ q : Nat, s.heap.size ≤ q → A q) (hP : va_P D vwCl wc H) (hD : va_D A wc) : PreS s H (xP D y As H.size wc) As :=
  ⟨xP_blind, fun U hU hW => ⟨gP_in hE hP hD U hU hW, xE_warm hW hXE, xZ_in hXZ hS (va_freeW hD hS hA) hU hW⟩⟩
theorem x_grow {ws : va_W} {H1 : Heap} (h : va_P D vwCl ws H) (hk : ∀ q : Nat, q < H.size → H1[q]? = H[q]?) : va_P D vwCl ws H1 := h.kept fun k q hq => hk q.1 (h k q hq).lt
theorem x_F {t : State} (hS : va_S A s.heap H locs) (hz : H.size ≤ t.heap.size) (hk : ∀ q : Nat, q < H.size → t.heap[q]? = H[q]?) : va_F A s t := ⟨Nat.le_trans hS.1 hz, fun q h1 h2 => (hk q (Nat.lt_of_lt_of_le h1 hS.1)).trans (hS.2.1 q h1 h2)⟩
end XT
theorem x_bad44 : ∀ w ∈ (vx_atS RX5 44 "java/lang/IllegalArgumentException" xN).filter (fun w => !goodWord w), w ∈ xBad "java/lang/IllegalArgumentException" := by decide +kernel
theorem x_bad55 : ∀ w ∈ (vx_atS RX5 55 "java/lang/IllegalStateException" xN).filter (fun w => !goodWord w), w ∈ xBad "java/lang/IllegalStateException" := by decide +kernel
theorem x_bad253 : ∀ w ∈ (vx_atS RX5 253 "java/lang/IndexOutOfBoundsException" xN).filter (fun w => !goodWord w), w ∈ xBad "java/lang/IndexOutOfBoundsException" := by decide +kernel
theorem x_good44 : ∀ w ∈ Cond.classLink RX5 40 "java/lang/IllegalArgumentException" :: Cond.initialized "java/lang/IllegalArgumentException" :: vx_atS RX5 44 "java/lang/IllegalArgumentException" xN, vx_ot w = true := List.all_eq_true.mp (by decide +kernel)
theorem x_good55 : ∀ w ∈ Cond.classLink RX5 51 "java/lang/IllegalStateException" :: Cond.initialized "java/lang/IllegalStateException" :: vx_atS RX5 55 "java/lang/IllegalStateException" xN, vx_ot w = true := List.all_eq_true.mp (by decide +kernel)
theorem x_good253 : ∀ w ∈ Cond.classLink RX5 249 "java/lang/IndexOutOfBoundsException" :: Cond.initialized "java/lang/IndexOutOfBoundsException" :: vx_atS RX5 253 "java/lang/IndexOutOfBoundsException" xN, vx_ot w = true := List.all_eq_true.mp (by decide +kernel)
section XQ
variable {p : Program} {l : Launch} {e : Env} {R : Room} {s : State} {m : MethodId} {args : Array Value} {below : List Frame} {meth : Method} {c : Code} {H : Heap} {locs : List Loc} {cells slots : Nat} {Q : State → Prop}
variable {pc : Nat} {ls : Array Slot} {st0 rest : List Value} {a : Array Value} {A0 : Nat → Prop} {H0 : Heap} {D : va_G} {ws wc : va_W} {mc ms N : Nat}
/-- a call of a method that only asks: it returns, or throws; its cells are as they were -/
theorem xq_call (hr : vx_Run p l e R s m args below meth c H locs cells slots mc ms (F0 m pc ls st0) rest (va_Qv (fun _ : Unit => N = 0) (fun (_ : Unit) t => va_P D vwCl wc t.heap ∧ va_D (va_A wc H.size) wc) (va_A wc H.size) a) (vx_X (fun _ : Unit => True) (fun E (_ : Unit) t => (N = xc E ∧ xc E ≠ 0) ∧ va_P D vwCl wc t.heap ∧ va_D (va_A wc H.size) wc) (va_A wc H.size)) (va_A wc H.size)) (hP : va_P D vwCl ws H) (hD : va_D A0 ws) (hS : va_S A0 H0 H locs) (hA : ∀ q : Nat, H0.size ≤ q → A0 q) (is : List Nat) (hC : is.map (fun i => ws[i]?) = wc.map some) (hn : va_nd is = true)
    (kx : ∀ (E : String) (ce : Cell) (q9 : Addr) (H1 : Heap) (locs1 : List Loc), N = xc E → xc E ≠ 0 → va_P D vwCl (xa_sets ws is wc) H1 → va_D A0 (xa_sets ws is wc) → va_S A0 H0 H1 locs1 → H1[q9]? = some ce → ce.vm = .none → s.vm.findClass E = some ce.cls → vx_W p l e R s m args below meth c H1 locs1 (cells + mc) (slots + ms) Q (F0 m pc ls rest) q9)
    (kk : ∀ (H1 : Heap) (locs1 : List Loc), N = 0 → va_P D vwCl (xa_sets ws is wc) H1 → va_D A0 (xa_sets ws is wc) → va_S A0 H0 H1 locs1 → W p l e R s m args below meth c H1 locs1 (cells + mc) (slots + ms) Q (F0 m (pc + 3) ls rest)) : W p l e R s m args below meth c H locs cells slots Q (F0 m pc ls st0) := by
  have hFc := va_free hD hS hA is hC
  refine vx_callv hr hS (fun q _ h => hFc q h) hFc (fun q _ h => hFc q h) (fun E ce q9 u t H1 locs1 ht hvm _ hB hz1 hk1 hS1 h7 h8 h9 => ?_) (fun u t H1 locs1 ht hvm hw hB hz1 hk1 hS1 => ?_)
  · obtain ⟨⟨e1, e2⟩, hP1, hD1⟩ := hB
    rw [ht] at hP1
    obtain ⟨g1, g2⟩ := xa_join hP hD is hC hn rfl hk1 hP1
    exact kx E ce q9 H1 locs1 e1 e2 g1 g2 hS1 h7 h8 h9
  · obtain ⟨hP1, hD1⟩ := hB
    rw [ht] at hP1
    obtain ⟨g1, g2⟩ := xa_join hP hD is hC hn rfl hk1 hP1
    exact kk H1 locs1 hw g1 g2 hS1
end XQ
