/-! OUR OWN WORDS: the state of a store as 78 numbers, the environment of a method, calls of readers, calls that keep the order of the cells -/
abbrev gR : Type := Nat → Int32
/-- a name for a value, kept as one -/
def gLet {α β : Type} (a : α) (f : α → β) : β := f a
theorem gLet_e {α β : Type} {a b : α} {f : α → β} (e : a = b) : gLet a f = f b := by rw [← e]; rfl
abbrev gT (y : Nat → ClassId) : List (ClassId × FieldType) := [(y 0, .int), (y 1, .char), (y 2, .boolean), (y 3, .object RX3)]
def gNest : List (String × Nat × MethodName) := [(RX5, 9, yX4_init), (RX5, 18, yX3_init), (RX5, 28, yX0_init), (RX5, 35, yX2_init), (RX0, 22, yX3_init), (RX2, 23, yX3_init), (RX3, 120, yX5_isValue), (RX3, 123, yX5_isHammered), (RX3, 129, yX5_isRounds), (RX3, 135, yX5_isSettingValue), (RX4, 46, yX5_isShape)]
/-- what a method takes of the tables: classes, array classes, nest mates -/
def gE (D : va_G) (y : Nat → ClassId) (U : State) : Prop := va_K D vwCl (gT y) U ∧ (∀ q ∈ gNest, va_Nw (Cond.methodLinkNest q.1 q.2.1 q.2.2 "GapLines") U) ∧ va_AO RX3 U
theorem gE_warm {D : va_G} {y : Nat → ClassId} {s U : State} (hW : s.WarmedH U.vm) (h : gE D y s) : gE D y U := ⟨va_K.moved hW.alike h.1, fun q hq => va_Nw.warmM hW (h.2.1 q hq), va_AO.moved hW.alike h.2.2⟩
theorem gE_same {D : va_G} {y : Nat → ClassId} {u U : State} (hv : u.vm = U.vm) (h : gE D y u) : gE D y U := gE_warm (s := u) (by rw [← hv]; exact State.WarmedH.refl u) h
abbrev gP (D : va_G) (y : Nat → ClassId) (av : List Value) (sz : Nat) (WS : va_W) : Array Value → State → Prop := va_Pc av (fun U => U.heap.size = sz ∧ va_P D vwCl WS U.heap ∧ gE D y U ∧ va_D (fun _ => True) WS)
theorem gP_blind {D : va_G} {y : Nat → ClassId} {av : List Value} {sz : Nat} {WS : va_W} : FrameBlind (gP D y av sz WS) := fun a U g mk q => ⟨q.1, q.2.1, q.2.2.1, gE_same (u := U) rfl q.2.2.2.1, q.2.2.2.2⟩
theorem gP_in {D : va_G} {y : Nat → ClassId} {av : List Value} {wc : va_W} {H : Heap} {A : Nat → Prop} {s : State} (hE : gE D y s) (hP : va_P D vwCl wc H) (hD : va_D A wc) (U : State) (hU : U.heap = H) (hW : s.WarmedH U.vm) : gP D y av H.size wc av.toArray U := ⟨rfl, by rw [hU], by rw [hU]; exact hP, gE_warm hW hE, hD.weaken (fun _ _ _ _ => trivial)⟩
theorem gV {D : va_G} {y : Nat → ClassId} {As : List Value} {wc : va_W} {H : Heap} {A : Nat → Prop} {s : State} {b ci : Nat} {fs : List Value} {q : vw_C} (hE : gE D y s) (hP : va_P D vwCl wc H) (hD : va_D A wc) (q0 : Nat) (he : wc[q0]? = some (b, .inr (ci, fs))) (hc : vwCl[ci]? = some q) : PreV s H q.1 b (gP D y (.ref b :: As) H.size wc) As :=
  ⟨gP_blind, va_recv hE.1 hP hc he, fun U hU hW => gP_in hE hP hD U hU hW⟩
theorem gS {D : va_G} {y : Nat → ClassId} {As : List Value} {wc : va_W} {H : Heap} {A : Nat → Prop} {s : State} (hE : gE D y s) (hP : va_P D vwCl wc H) (hD : va_D A wc) : PreS s H (gP D y As H.size wc) As :=
  ⟨gP_blind, fun U hU hW => gP_in hE hP hD U hU hW⟩
section XS
variable {p : Program} {l : Launch} {e : Env} {R : Room} {s : State} {m : MethodId} {args : Array Value} {below : List Frame} {meth : Method} {c : Code} {H : Heap} {locs : List Loc} {cells slots : Nat} {Q : State → Prop}
variable {pc : Nat} {ls : Array Slot} {st0 rest : List Value} {a : Array Value}
/-- a call of a reader: it answers, and the heap is the same -/
theorem xs_calli {post : Int32 → Prop} (hr : va_Run p l e R s m args below meth c H locs cells slots 0 0 (F0 m pc ls st0) rest (vp_Si post a) (fun _ => False))
    (kk : ∀ r : Int32, post r → W p l e R s m args below meth c H locs cells slots Q (F0 m (pc + 3) ls (.int r :: rest))) : W p l e R s m args below meth c H locs cells slots Q (F0 m pc ls st0) := by
  intro T hT X
  obtain ⟨v, st₀, t, T', L, h0, X', hL, e1, -, ⟨r, hv, hp, hh⟩, st⟩ := hr T hT X
  cases hv
  obtain ⟨t2, a1, b1⟩ := kk r hp T' (by rw [e1, hh, h0]) (Stand.forget X' (fun q h => (hL q h).elim))
  exact ⟨t2, st t2 a1, b1⟩
theorem xs_calll {post : Int64 → Prop} (hr : va_Run p l e R s m args below meth c H locs cells slots 0 0 (F0 m pc ls st0) rest (vp_Sl post a) (fun _ => False))
    (kk : ∀ r : Int64, post r → W p l e R s m args below meth c H locs cells slots Q (F0 m (pc + 3) ls (.long r :: rest))) : W p l e R s m args below meth c H locs cells slots Q (F0 m pc ls st0) := by
  intro T hT X
  obtain ⟨v, st₀, t, T', L, h0, X', hL, e1, -, ⟨r, hv, hp, hh⟩, st⟩ := hr T hT X
  cases hv
  obtain ⟨t2, a1, b1⟩ := kk r hp T' (by rw [e1, hh, h0]) (Stand.forget X' (fun q h => (hL q h).elim))
  exact ⟨t2, st t2 a1, b1⟩
end XS
/-- cells of a world put anew, at their places -/
def xa_sets (ws : va_W) : List Nat → va_W → va_W
  | i :: is, x :: xs => xa_sets (ws.set i x) is xs
  | _, _ => ws
theorem xa_sets_mem : ∀ (is : List Nat) (w1 : va_W) (ws : va_W) (k : Nat), va_nd is = true → is.length = w1.length → (∀ i ∈ is, i < ws.length) →
    (∃ j : Nat, is[j]? = some k ∧ (xa_sets ws is w1)[k]? = w1[j]?) ∨ (k ∉ is ∧ (xa_sets ws is w1)[k]? = ws[k]?)
  | [], w1, ws, k, _, _, _ => Or.inr ⟨List.not_mem_nil, by cases w1 <;> rfl⟩
  | i :: is, [], ws, k, _, h, _ => by simp at h
  | i :: is, x :: xs, ws, k, hn, hl, hi => by
    have hn' : i ∉ is ∧ va_nd is = true := by simpa only [va_nd, Bool.and_eq_true, decide_eq_true_eq] using hn
    have hni : i ∉ is := hn'.1
    have ih := xa_sets_mem is xs (ws.set i x) k hn'.2 (by simpa using hl) (fun j hj => by rw [List.length_set]; exact hi j (List.mem_cons_of_mem _ hj))
    rcases ih with ⟨j, h1, h2⟩ | ⟨h1, h2⟩
    · exact Or.inl ⟨j + 1, by simpa using h1, by simpa [xa_sets] using h2⟩
    · by_cases hk : k = i
      · subst hk
        refine Or.inl ⟨0, rfl, ?_⟩
        show (xa_sets (ws.set k x) is xs)[k]? = some x
        rw [h2, List.getElem?_set_self (hi k List.mem_cons_self)]
      · refine Or.inr ⟨fun h => (List.mem_cons.mp h).elim hk h1, ?_⟩
        show (xa_sets (ws.set i x) is xs)[k]? = ws[k]?
        rw [h2, List.getElem?_set_ne (fun h => hk h.symm)]
/-- behind a call that keeps its cells: the callee's cells anew at their places, the others as they were -/
theorem xa_join {A0 : Nat → Prop} {D : va_G} {cl : List vw_C} {ws wc w1 : va_W} {H H1 : Heap} (hP : va_P D cl ws H) (hD : va_D A0 ws) (is : List Nat) (hC : is.map (fun i => ws[i]?) = wc.map some) (hn : va_nd is = true) (hf : w1.map (fun q => q.1) = wc.map (fun q => q.1))
    (hk : ∀ q : Nat, q < H.size → ¬ va_A wc H.size q → H1[q]? = H[q]?) (hP1 : va_P D cl w1 H1) : va_P D cl (xa_sets ws is w1) H1 ∧ va_D A0 (xa_sets ws is w1) := by
  have hlen : is.length = wc.length := by have := congrArg List.length hC; simpa using this
  have hlen1 : w1.length = wc.length := by have := congrArg List.length hf; simpa using this
  have hat : ∀ (j i : Nat), is[j]? = some i → ∃ q, wc[j]? = some q ∧ ws[i]? = some q := by
    intro j i hj
    have h1 := congrArg (fun z => z[j]?) hC
    simp only [List.getElem?_map, hj, Option.map_some] at h1
    cases hq : wc[j]? with
    | none => rw [hq] at h1; simp at h1
    | some q => rw [hq] at h1; simp at h1; exact ⟨q, rfl, h1⟩
  have hlt : ∀ i ∈ is, i < ws.length := by
    intro i hi
    obtain ⟨j, hj⟩ := List.getElem?_of_mem hi
    obtain ⟨q, -, h2⟩ := hat j i hj
    exact (List.getElem?_eq_some_iff.mp h2).1
  have key : ∀ (k : Nat) (q : Nat × va_E), (xa_sets ws is w1)[k]? = some q → (∃ q0, ws[k]? = some q0 ∧ q0.1 = q.1) ∧ va_at D cl q H1 := by
    intro k q hq
    rcases xa_sets_mem is w1 ws k hn (hlen.trans hlen1.symm) hlt with ⟨j, h1, h2⟩ | ⟨h1, h2⟩
    · rw [hq] at h2
      obtain ⟨q0, g1, g2⟩ := hat j k h1
      refine ⟨⟨q0, g2, ?_⟩, hP1 j q h2.symm⟩
      have h3 := congrArg (fun z => z[j]?) hf
      simp only [List.getElem?_map, ← h2, g1, Option.map_some] at h3
      exact (Option.some.inj h3).symm
    · rw [hq] at h2
      refine ⟨⟨q, h2.symm, rfl⟩, (hP k q h2.symm).kept (hk q.1 ((hP k q h2.symm).lt) ?_)⟩
      rintro (⟨j, e, h⟩ | h)
      · have h4 := congrArg (fun z => z[j]?) hC
        simp only [List.getElem?_map, h, Option.map_some] at h4
        cases hi : is[j]? with
        | none => rw [hi] at h4; simp at h4
        | some i =>
          rw [hi] at h4
          simp at h4
          have := hD.1 k i q (q.1, e) h2.symm h4 rfl
          subst this
          exact h1 (List.mem_of_getElem? hi)
      · exact Nat.lt_irrefl _ (Nat.lt_of_lt_of_le ((hP k q h2.symm).lt) h)
  refine ⟨fun k q hq => (key k q hq).2, fun i j a b ha hb hab => ?_, fun k q hq => ?_⟩
  · obtain ⟨⟨a0, h1, h2⟩, -⟩ := key i a ha
    obtain ⟨⟨b0, h3, h4⟩, -⟩ := key j b hb
    exact hD.1 i j a0 b0 h1 h3 (by rw [h2, h4, hab])
  · obtain ⟨⟨a0, h1, h2⟩, -⟩ := key k q hq
    rw [← h2]
    exact hD.2 k a0 h1
/-- an array's contents count below its length alone -/
theorem xa_congr {D : va_G} {cl : List vw_C} {ws : va_W} {H : Heap} (hP : va_P D cl ws H) (k : Nat) {a n : Nat} {cA : ClassId} {f g : Nat → Int32} (hk : ws[k]? = some (a, .inl (cA, n, .inl f))) (h : ∀ j, j < n → f j = g j) : va_P D cl (ws.set k (a, .inl (cA, n, .inl g))) H := by
  intro i q hq
  by_cases hi : i = k
  · subst hi
    rw [List.getElem?_set_self (List.getElem?_eq_some_iff.mp hk).1] at hq
    cases hq
    have h1 := hP i _ hk
    show H[a]? = some (vp_cell _ _)
    rw [show H[a]? = some (vp_cell cA (n, .inl f)) from h1, vp_cell_i, vp_cell_i]
    congr 1
    unfold arrV
    congr 1
    apply Array.ext
    · simp
    · intro j h2 h3
      simp at h2
      simp [h j h2]
  · rw [List.getElem?_set_ne (fun h => hi h.symm)] at hq
    exact hP i q hq
/-- a store's object, its values, its wears: r's numbers -/
abbrev soF (v w : Nat) (r : gR) : va_E := .inr (2, [.int (r 0), .int (r 1), .int (r 2), .int (r 3), .int (r 4), .int (r 5), .int (r 6), .int (r 7), .int (r 9), .int (r 10), .int (r 8), .int (r 11), .int (r 12), .ref v, .ref w])
abbrev soV (y : Nat → ClassId) (r : gR) : va_E := .inl (y 0, 32, .inl (fun j => r (13 + j)))
abbrev soW (y : Nat → ClassId) (r : gR) : va_E := .inl (y 0, 33, .inl (fun j => r (45 + j)))
theorem upd_v0 (r : gR) {j : Nat} (hj : j < 13) (x : Int32) : (fun i => upd r j x (13 + i)) = fun i => r (13 + i) := by
  funext i; unfold upd; rw [if_neg (by omega)]
theorem upd_w0 (r : gR) {j : Nat} (hj : j < 45) (x : Int32) : (fun i => upd r j x (45 + i)) = fun i => r (45 + i) := by
  funext i; unfold upd; rw [if_neg (by omega)]
theorem upd_vv (r : gR) (k : Nat) (x : Int32) : (fun i => upd r (13 + k) x (13 + i)) = upd (fun i => r (13 + i)) k x := by
  funext i; unfold upd
  by_cases h : i = k
  · rw [if_pos (by omega), if_pos h]
  · rw [if_neg (by omega), if_neg h]
theorem upd_ww (r : gR) (k : Nat) (x : Int32) : (fun i => upd r (45 + k) x (45 + i)) = upd (fun i => r (45 + i)) k x := by
  funext i; unfold upd
  by_cases h : i = k
  · rw [if_pos (by omega), if_pos h]
  · rw [if_neg (by omega), if_neg h]
/-- the world of a store alone -/
abbrev soC (y : Nat → ClassId) (a v w : Nat) (r : gR) : va_W := [(a, soF v w r), (v, soV y r), (w, soW y r)]
/-- a field was put: the store's numbers with that one anew -/
theorem so_put {D : va_G} {y : Nat → ClassId} {a v w : Nat} {r : gR} {x : Int32} {H : Heap} {A : Nat → Prop} (j : Nat) (hj : j < 13) {fs : List Value} (hf : (.inr (2, fs) : va_E) = soF v w (upd r j x)) (hP : va_P D vwCl [(a, .inr (2, fs)), (v, soV y r), (w, soW y r)] H) (hD : va_D A [(a, .inr (2, fs)), (v, soV y r), (w, soW y r)]) : va_P D vwCl (soC y a v w (upd r j x)) H ∧ va_D A (soC y a v w (upd r j x)) := by
  have e1 : soV y (upd r j x) = soV y r := by simp only [soV]; rw [upd_v0 r hj]
  have e2 : soW y (upd r j x) = soW y r := by simp only [soW]; rw [upd_w0 r (by omega)]
  rw [soC, e1, e2, ← hf]
  exact ⟨hP, hD⟩
theorem so_val {D : va_G} {y : Nat → ClassId} {a v w : Nat} {r : gR} {x : Int32} {H : Heap} {A : Nat → Prop} (k : Nat) (hk : k < 32) (hP : va_P D vwCl [(a, soF v w r), (v, .inl (y 0, 32, .inl (upd (fun j => r (13 + j)) k x))), (w, soW y r)] H) (hD : va_D A [(a, soF v w r), (v, .inl (y 0, 32, .inl (upd (fun j => r (13 + j)) k x))), (w, soW y r)]) : va_P D vwCl (soC y a v w (upd r (13 + k) x)) H ∧ va_D A (soC y a v w (upd r (13 + k) x)) := by
  have e0 : soF v w (upd r (13 + k) x) = soF v w r := by
    have h : ∀ i, i < 13 → upd r (13 + k) x i = r i := fun i hi => by unfold upd; rw [if_neg (by omega)]
    simp only [soF, h _ (by decide : 0 < 13), h _ (by decide : 1 < 13), h _ (by decide : 2 < 13), h _ (by decide : 3 < 13), h _ (by decide : 4 < 13), h _ (by decide : 5 < 13), h _ (by decide : 6 < 13), h _ (by decide : 7 < 13), h _ (by decide : 8 < 13), h _ (by decide : 9 < 13), h _ (by decide : 10 < 13), h _ (by decide : 11 < 13), h _ (by decide : 12 < 13)]
  have e1 : soV y (upd r (13 + k) x) = .inl (y 0, 32, .inl (upd (fun j => r (13 + j)) k x)) := by simp only [soV]; rw [upd_vv]
  have e2 : soW y (upd r (13 + k) x) = soW y r := by simp only [soW]; rw [upd_w0 r (by omega)]
  rw [soC, e0, e1, e2]
  exact ⟨hP, hD⟩
theorem so_wear {D : va_G} {y : Nat → ClassId} {a v w : Nat} {r : gR} {x : Int32} {H : Heap} {A : Nat → Prop} (k : Nat) (hP : va_P D vwCl [(a, soF v w r), (v, soV y r), (w, .inl (y 0, 33, .inl (upd (fun j => r (45 + j)) k x)))] H) (hD : va_D A [(a, soF v w r), (v, soV y r), (w, .inl (y 0, 33, .inl (upd (fun j => r (45 + j)) k x)))]) : va_P D vwCl (soC y a v w (upd r (45 + k) x)) H ∧ va_D A (soC y a v w (upd r (45 + k) x)) := by
  have e0 : soF v w (upd r (45 + k) x) = soF v w r := by
    have h : ∀ i, i < 13 → upd r (45 + k) x i = r i := fun i hi => by unfold upd; rw [if_neg (by omega)]
    simp only [soF, h _ (by decide : 0 < 13), h _ (by decide : 1 < 13), h _ (by decide : 2 < 13), h _ (by decide : 3 < 13), h _ (by decide : 4 < 13), h _ (by decide : 5 < 13), h _ (by decide : 6 < 13), h _ (by decide : 7 < 13), h _ (by decide : 8 < 13), h _ (by decide : 9 < 13), h _ (by decide : 10 < 13), h _ (by decide : 11 < 13), h _ (by decide : 12 < 13)]
  have e2 : soW y (upd r (45 + k) x) = .inl (y 0, 33, .inl (upd (fun j => r (45 + j)) k x)) := by simp only [soW]; rw [upd_ww]
  refine ⟨?_, ?_⟩
  · rw [soC, e0, e2]
    exact xa_congr hP 1 (g := fun j => upd r (45 + k) x (13 + j)) rfl (fun j hj => by unfold upd; rw [if_neg (by omega)])
  · rw [soC, e0, e2]
    exact hD.set (p := 1) (e := soV y (upd r (45 + k) x)) rfl
section XW
variable {p : Program} {l : Launch} {e : Env} {R : Room} {s : State} {m : MethodId} {args : Array Value} {below : List Frame} {meth : Method} {c : Code} {H : Heap} {locs : List Loc} {cells slots : Nat} {Q : State → Prop}
variable {pc : Nat} {ls : Array Slot} {st0 rest : List Value} {a : Array Value} {A0 : Nat → Prop} {H0 : Heap} {D : va_G} {ws wc : va_W}
/-- a call that keeps its cells, and makes none -/
theorem xw_callv {S : Type} {post : S → Prop} {w1 : S → va_W} (hr : va_Run p l e R s m args below meth c H locs cells slots 0 0 (F0 m pc ls st0) rest (va_Qv post (fun u t => va_P D vwCl (w1 u) t.heap ∧ va_D (va_A wc H.size) (w1 u)) (va_A wc H.size) a) (va_A wc H.size)) (hP : va_P D vwCl ws H) (hD : va_D A0 ws) (hS : va_S A0 H0 H locs) (hA : ∀ q : Nat, H0.size ≤ q → A0 q) (is : List Nat) (hC : is.map (fun i => ws[i]?) = wc.map some) (hn : va_nd is = true) (hf : ∀ u, (w1 u).map (fun q => q.1) = wc.map (fun q => q.1))
    (kk : ∀ (u : S) (H1 : Heap) (locs1 : List Loc), post u → va_P D vwCl (xa_sets ws is (w1 u)) H1 → va_D A0 (xa_sets ws is (w1 u)) → va_S A0 H0 H1 locs1 → W p l e R s m args below meth c H1 locs1 cells slots Q (F0 m (pc + 3) ls rest)) : W p l e R s m args below meth c H locs cells slots Q (F0 m pc ls st0) := by
  have hFc := va_free hD hS hA is hC
  refine va_callv hr hS (fun q _ h => hFc q h) hFc (fun u t H1 locs1 ht hvm hw hB hz1 hk1 hS1 => ?_)
  obtain ⟨hP1, hD1⟩ := hB
  rw [ht] at hP1
  obtain ⟨h1, h2⟩ := xa_join hP hD is hC hn (hf u) hk1 hP1
  exact kk u H1 locs1 hw h1 h2 hS1
theorem xw_calli {S : Type} {post : Int32 → S → Prop} {w1 : S → va_W} (hr : va_Run p l e R s m args below meth c H locs cells slots 0 0 (F0 m pc ls st0) rest (va_Qi post (fun u t => va_P D vwCl (w1 u) t.heap ∧ va_D (va_A wc H.size) (w1 u)) (va_A wc H.size) a) (va_A wc H.size)) (hP : va_P D vwCl ws H) (hD : va_D A0 ws) (hS : va_S A0 H0 H locs) (hA : ∀ q : Nat, H0.size ≤ q → A0 q) (is : List Nat) (hC : is.map (fun i => ws[i]?) = wc.map some) (hn : va_nd is = true) (hf : ∀ u, (w1 u).map (fun q => q.1) = wc.map (fun q => q.1))
    (kk : ∀ (r : Int32) (u : S) (H1 : Heap) (locs1 : List Loc), post r u → va_P D vwCl (xa_sets ws is (w1 u)) H1 → va_D A0 (xa_sets ws is (w1 u)) → va_S A0 H0 H1 locs1 → W p l e R s m args below meth c H1 locs1 cells slots Q (F0 m (pc + 3) ls (.int r :: rest))) : W p l e R s m args below meth c H locs cells slots Q (F0 m pc ls st0) := by
  have hFc := va_free hD hS hA is hC
  refine va_calli hr hS (fun q _ h => hFc q h) hFc (fun r u t H1 locs1 ht hvm hw hB hz1 hk1 hS1 => ?_)
  obtain ⟨hP1, hD1⟩ := hB
  rw [ht] at hP1
  obtain ⟨h1, h2⟩ := xa_join hP hD is hC hn (hf u) hk1 hP1
  exact kk r u H1 locs1 hw h1 h2 hS1
end XW
section XA
variable {p : Program} {l : Launch} {e : Env} {R : Room} {s : State} {m : MethodId} {args : Array Value} {below : List Frame} {meth : Method} {c : Code} {H : Heap} {locs : List Loc} {cells slots : Nat} {Q : State → Prop}
variable {cc : ByteArray} {pc : Nat} {ls : Array Slot} {rest : List Value} {D : va_G} {cl : List vw_C} {A : Nat → Prop} {a : Nat} {tys : List (ClassId × FieldType)} {ws : va_W} {H0 : Heap}
theorem xa_iald (hexec : p.tables.exec = Jvm.exec) (hb : c.code = cc) (hK : va_K D cl tys s) (hP : va_P D cl ws H) (q0 t0 : Nat) {cA : ClassId} {n : Nat} {f : Nat → Int32} (ha : ws[q0]? = some (a, .inl (cA, n, .inl f))) (ht : tys[t0]? = some (cA, .int)) {i : Int32} (hin : vp_in i n) {k : Nat} (hk : i.toNatClampNeg = k) {v : Int32} (hv : f k = v) (hdg : decode cc pc = .ok (.iaload, 1))
    (kk : W p l e R s m args below meth c H locs cells slots Q (F0 m (pc + 1) ls (.int v :: rest))) : W p l e R s m args below meth c H locs cells slots Q (F0 m pc ls (.int i :: .ref a :: rest)) := by
  subst hk; subst hv
  exact va_iald hexec hb hK hP q0 t0 ha ht hin hdg kk
theorem xa_cald (hexec : p.tables.exec = Jvm.exec) (hb : c.code = cc) (hK : va_K D cl tys s) (hP : va_P D cl ws H) (q0 t0 : Nat) {cA : ClassId} {n : Nat} {f : Nat → Int32} (ha : ws[q0]? = some (a, .inl (cA, n, .inl f))) (ht : tys[t0]? = some (cA, .char)) {i : Int32} (hin : vp_in i n) {k : Nat} (hk : i.toNatClampNeg = k) {v : Int32} (hv : f k = v) (hdg : decode cc pc = .ok (.caload, 1))
    (kk : W p l e R s m args below meth c H locs cells slots Q (F0 m (pc + 1) ls (.int v :: rest))) : W p l e R s m args below meth c H locs cells slots Q (F0 m pc ls (.int i :: .ref a :: rest)) := by
  subst hk; subst hv
  exact va_cald hexec hb hK hP q0 t0 ha ht hin hdg kk
theorem xa_zald (hexec : p.tables.exec = Jvm.exec) (hb : c.code = cc) (hK : va_K D cl tys s) (hP : va_P D cl ws H) (q0 t0 : Nat) {cA : ClassId} {n : Nat} {f : Nat → Int32} (ha : ws[q0]? = some (a, .inl (cA, n, .inl f))) (ht : tys[t0]? = some (cA, .boolean)) {i : Int32} (hin : vp_in i n) {k : Nat} (hk : i.toNatClampNeg = k) {v : Int32} (hv : f k = v) (hdg : decode cc pc = .ok (.baload, 1))
    (kk : W p l e R s m args below meth c H locs cells slots Q (F0 m (pc + 1) ls (.int v :: rest))) : W p l e R s m args below meth c H locs cells slots Q (F0 m pc ls (.int i :: .ref a :: rest)) := by
  subst hk; subst hv
  exact va_zald hexec hb hK hP q0 t0 ha ht hin hdg kk
theorem xa_iast (hexec : p.tables.exec = Jvm.exec) (hb : c.code = cc) (hK : va_K D cl tys s) (hP : va_P D cl ws H) (hD : va_D A ws) (hS : va_S A H0 H locs) (q0 t0 : Nat) {cA : ClassId} {n : Nat} {f : Nat → Int32} (ha : ws[q0]? = some (a, .inl (cA, n, .inl f))) (ht : tys[t0]? = some (cA, .int)) {i x : Int32} (hin : vp_in i n) {k : Nat} (hk : i.toNatClampNeg = k) (hdg : decode cc pc = .ok (.iastore, 1))
    (kk : ∀ (H1 : Heap) (locs1 : List Loc), va_P D cl (ws.set q0 (a, .inl (cA, n, .inl (upd f k x)))) H1 → va_D A (ws.set q0 (a, .inl (cA, n, .inl (upd f k x)))) → va_S A H0 H1 locs1 → W p l e R s m args below meth c H1 locs1 cells slots Q (F0 m (pc + 1) ls rest)) : W p l e R s m args below meth c H locs cells slots Q (F0 m pc ls (.int x :: .int i :: .ref a :: rest)) := by
  subst hk
  exact va_iast hexec hb hK hP hD hS q0 t0 ha ht hin hdg kk
theorem xa_zast (hexec : p.tables.exec = Jvm.exec) (hb : c.code = cc) (hK : va_K D cl tys s) (hP : va_P D cl ws H) (hD : va_D A ws) (hS : va_S A H0 H locs) (q0 t0 : Nat) {cA : ClassId} {n : Nat} {f : Nat → Int32} (ha : ws[q0]? = some (a, .inl (cA, n, .inl f))) (ht : tys[t0]? = some (cA, .boolean)) {i x x' : Int32} (hin : vp_in i n) {k : Nat} (hk : i.toNatClampNeg = k) (hx' : vp_nar .boolean x = x') (hdg : decode cc pc = .ok (.bastore, 1))
    (kk : ∀ (H1 : Heap) (locs1 : List Loc), va_P D cl (ws.set q0 (a, .inl (cA, n, .inl (upd f k x')))) H1 → va_D A (ws.set q0 (a, .inl (cA, n, .inl (upd f k x')))) → va_S A H0 H1 locs1 → W p l e R s m args below meth c H1 locs1 cells slots Q (F0 m (pc + 1) ls rest)) : W p l e R s m args below meth c H locs cells slots Q (F0 m pc ls (.int x :: .int i :: .ref a :: rest)) := by
  subst hk; subst hx'
  exact va_zast hexec hb hK hP hD hS q0 t0 ha ht hin hdg kk
theorem xa_cast (hexec : p.tables.exec = Jvm.exec) (hb : c.code = cc) (hK : va_K D cl tys s) (hP : va_P D cl ws H) (hD : va_D A ws) (hS : va_S A H0 H locs) (q0 t0 : Nat) {cA : ClassId} {n : Nat} {f : Nat → Int32} (ha : ws[q0]? = some (a, .inl (cA, n, .inl f))) (ht : tys[t0]? = some (cA, .char)) {i x x' : Int32} (hin : vp_in i n) {k : Nat} (hk : i.toNatClampNeg = k) (hx' : vp_nar .char x = x') (hdg : decode cc pc = .ok (.castore, 1))
    (kk : ∀ (H1 : Heap) (locs1 : List Loc), va_P D cl (ws.set q0 (a, .inl (cA, n, .inl (upd f k x')))) H1 → va_D A (ws.set q0 (a, .inl (cA, n, .inl (upd f k x')))) → va_S A H0 H1 locs1 → W p l e R s m args below meth c H1 locs1 cells slots Q (F0 m (pc + 1) ls rest)) : W p l e R s m args below meth c H locs cells slots Q (F0 m pc ls (.int x :: .int i :: .ref a :: rest)) := by
  subst hk; subst hx'
  exact va_cast hexec hb hK hP hD hS q0 t0 ha ht hin hdg kk
end XA
/-! numbers -/
theorem xin {i : Int32} {n : Nat} (h : (!decide (i < 0) && decide (i.toNatClampNeg < n)) = true) : vp_in i n := by
  rw [Bool.and_eq_true] at h
  have h1 := h.1
  have h2 := of_decide_eq_true h.2
  rintro (h3 | h3)
  · rw [decide_eq_true h3] at h1; cases h1
  · omega
/-- an index between 0 and a bound -/
theorem xin2 {i : Int32} {n : Nat} (h0 : 0 ≤ i.toInt) (h1 : i.toInt < n) : vp_in i n := vp_in_iff.mpr ⟨h0, h1⟩
theorem i_lt {a b : Int32} : a < b ↔ a.toInt < b.toInt := Int32.lt_iff_toInt_lt
theorem i_le {a b : Int32} : a ≤ b ↔ a.toInt ≤ b.toInt := Int32.le_iff_toInt_le
theorem i_eq {a b : Int32} : a = b ↔ a.toInt = b.toInt := Int32.toInt_inj.symm
theorem i_hi (a : Int32) : a.toInt < 2147483648 := by have := Int32.toInt_lt a; simpa using this
theorem i_lo (a : Int32) : -2147483648 ≤ a.toInt := by have := Int32.le_toInt a; simpa using this
theorem i_add {a b : Int32} (h1 : -2147483648 ≤ a.toInt + b.toInt) (h2 : a.toInt + b.toInt < 2147483648) : (a + b).toInt = a.toInt + b.toInt := by
  rw [Int32.toInt_add, Int.bmod_eq_of_le] <;> simp <;> omega
theorem i_sub {a b : Int32} (h1 : -2147483648 ≤ a.toInt - b.toInt) (h2 : a.toInt - b.toInt < 2147483648) : (a - b).toInt = a.toInt - b.toInt := by
  rw [Int32.toInt_sub, Int.bmod_eq_of_le] <;> simp <;> omega
/-- one more, below something -/
theorem i_up {x m : Int32} (h : x < m) : (x + 1).toInt = x.toInt + 1 := by
  have h1 := i_lt.mp h
  have h2 := i_hi m
  have h3 := i_lo x
  have e : (1 : Int32).toInt = 1 := by decide
  rw [i_add (by omega) (by omega), e]
theorem lp_up {x m : Int32} {n : Nat} (h : ¬ m ≤ x) (hμ : (m.toInt - x.toInt).toNat < n + 1) : (m.toInt - (x + 1).toInt).toNat < n := by
  have h1 : x < m := Int32.not_le.mp h
  have h2 := i_lt.mp h1
  rw [i_up h1]
  omega
