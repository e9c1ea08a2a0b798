/-! THE LAW'S BODY: what its cases share -/
def R_law : String := "GapLinesLaw"
def lw_P (b : Addr) (xs : List Int32) (args : Array Value) (s : State) : Prop := args = #[.ref b] ∧ s.IntsAt b xs ∧ xs.length ≤ 2048 ∧ (Jvm.Cond.and given_1 narrow_1).before args s = true
def lw_Q (_ : Array Value) (s : State) (o : Outcome) (t : State) : Prop := o = .returned (some (.int 1)) ∧ Framed s o t [] 601024 7293034
def lw_Z (below : List Frame) (a : Array Value) (s : State) : State → Prop := fun t => ∃ o, t.status = .running ∧ Ended t below o ∧ lw_Q a s o t
/-- the law's own end, with 1 on the stack, nothing written that was there before, its room as the claim has it -/
theorem lw_ret {p : Program} {l : Launch} {e : Env} {s : State} {m : MethodId} {below : List Frame} {meth : Method} {c : Code} {b : Nat} (hx : p.tables.exec = Jvm.exec) (hb : c.code = code) (hr : meth.sig.returnType = ret) (hlocks : meth.locks = false) {pc : Nat} {H : Heap} {ls : Array Slot} (hdg : decode code pc = .ok (.ireturn, 1)) : W p l e room_1 s m #[Value.ref b] below meth c H [] 601024 7293034 (lw_Z below #[Value.ref b] s) (F0 m pc ls [.int 1]) := by
  intro T hT X
  obtain ⟨fs, hret, hrun, hended, hW, hframe⟩ := X.leave (v := some (.int 1)) (hlocks := hlocks) (fun h => by rw [hr] at h; cases h)
  have hmeth' : T.vm.method? m = some meth := X.method'
  refine ⟨T.setFrames fs, ?_, .returned (some (.int 1)), hrun, hended, rfl, ⟨_, rfl⟩, hW, hframe⟩
  jvm_step X.here [X.here.top, hx, hb, hdg, hmeth', hr, ret, narrow_b1]
  (try refine ⟨rfl, ?_⟩); (try refine ⟨rfl, ?_⟩)
  first | (intro acts; rw [hret _ acts rfl rfl rfl]) | rw [hret _ _ rfl rfl rfl]
  exact Steps.refl _
/-- what holds at the law's entry: the machine, the code, the tables' words (any of lw_tbl by 'hts w (by decide +kernel)'), the script of L ints xs at the cell b, what the Statement gives of the start (any of its parts by flat_of_before) -/
def lw_At (p : Program) (s : State) (m : MethodId) (meth : Method) (c : Code) (b L : Nat) (xs : Nat → Int32) : Prop :=
  p.tables.exec = Jvm.exec ∧ c.code = code ∧ meth.sig.returnType = ret ∧ c.maxLocals = 7 ∧ s.vm.findClass R_law = some m.cls ∧ (∀ w ∈ lw_tbl, w.before #[Value.ref b] s = true) ∧ va_X b L xs s s.heap ∧ b < s.heap.size ∧ meth.locks = false ∧ (Jvm.Cond.and given_1 narrow_1).before #[Value.ref b] s = true
section XLW
variable {p : Program} {l : Launch} {e : Env} {R : Room} {s : State} {m : MethodId} {args : Array Value} {below : List Frame} {meth : Method} {c : Code} {H : Heap} {locs : List Loc} {cells slots : Nat} {Q : State → Prop}
variable {pc : Nat} {ls : Array Slot} {st0 rest : List Value} {a : Array Value} {A0 : Nat → Prop} {H0 : Heap} {D : va_G} {ws wc ex : va_W} {mc ms : Nat}
/-- a call that answers, its cells at their places, new cells besides -/
theorem xl_calli {S : Type} {post : Int32 → S → Prop} {w1 : S → va_W} (hr : va_Run p l e R s m args below meth c H locs cells slots mc ms (F0 m pc ls st0) rest (va_Qi post (fun u t => va_P D vwCl (w1 u) t.heap ∧ va_D (va_A wc H.size) (w1 u)) (va_A wc H.size) a) (va_A wc H.size)) (hP : va_P D vwCl ws H) (hD : va_D A0 ws) (hS : va_S A0 H0 H locs) (hA : ∀ q : Nat, H0.size ≤ q → A0 q) (is : List Nat) (hC : is.map (fun i => ws[i]?) = wc.map some) (hn : va_nd is = true) (hf : ∀ u, (w1 u).map (fun q => q.1) = wc.map (fun q => q.1))
    (kk : ∀ (r : Int32) (u : S) (H1 : Heap) (locs1 : List Loc), post r u → va_P D vwCl (xa_sets ws is (w1 u)) H1 → va_D A0 (xa_sets ws is (w1 u)) → va_S A0 H0 H1 locs1 → W p l e R s m args below meth c H1 locs1 (cells + mc) (slots + ms) Q (F0 m (pc + 3) ls (.int r :: rest))) : W p l e R s m args below meth c H locs cells slots Q (F0 m pc ls st0) := by
  have hFc := va_free hD hS hA is hC
  refine va_calli hr hS (fun q _ h => hFc q h) hFc (fun r u t H1 locs1 ht hvm hw hB hz1 hk1 hS1 => ?_)
  obtain ⟨hP1, hD1⟩ := hB
  rw [ht] at hP1
  obtain ⟨h1, h2⟩ := xa_join hP hD is hC hn (hf u) hk1 hP1
  exact kk r u H1 locs1 hw h1 h2 hS1
/-- a call that takes all but some cells ahead, and its pool may lie elsewhere behind -/
theorem xl_callEi {S G : Type} {post : Int32 → S → Prop} {w1 : S → G → G → va_W} (hr : va_Run p l e R s m args below meth c H locs cells slots mc ms (F0 m pc ls st0) rest (va_Qi post (fun u t => ∃ g1 g2, va_P D vwCl (w1 u g1 g2) t.heap ∧ va_D (va_A wc H.size) (w1 u g1 g2)) (va_A wc H.size) a) (va_A wc H.size)) (hP : va_P D vwCl (ex ++ wc) H) (hD : va_D A0 (ex ++ wc)) (hS : va_S A0 H0 H locs) (hA : ∀ q : Nat, H0.size ≤ q → A0 q)
    (kk : ∀ (r : Int32) (u : S) (g1 g2 : G) (H1 : Heap) (locs1 : List Loc), post r u → va_P D vwCl (ex ++ w1 u g1 g2) H1 → va_D A0 (ex ++ w1 u g1 g2) → va_S A0 H0 H1 locs1 → W p l e R s m args below meth c H1 locs1 (cells + mc) (slots + ms) Q (F0 m (pc + 3) ls (.int r :: rest))) : W p l e R s m args below meth c H locs cells slots Q (F0 m pc ls st0) := by
  have hFc := xw_freeE hD hS hA
  refine va_calli hr hS (fun q _ h => hFc q h) hFc (fun r u t H1 locs1 ht hvm hw hB hz1 hk1 hS1 => ?_)
  obtain ⟨i1, i2, hP1, hD1⟩ := hB
  rw [ht] at hP1
  obtain ⟨g1, g2⟩ := xw_joinE hP hD hk1 hFc hP1 hD1
  exact kk r u i1 i2 H1 locs1 hw g1 g2 hS1
end XLW
theorem law_subE {D : va_G} {cl : List vw_C} {ex wc : va_W} {H : Heap} (hP : va_P D cl (ex ++ wc) H) : va_P D cl wc H := xa_mem.mpr fun q hq => xa_mem.mp hP q (List.mem_append_right _ hq)
theorem law_subD {A : Nat → Prop} {ex wc : va_W} (hD : va_D A (ex ++ wc)) : va_D A wc := by
  obtain ⟨n1, n2⟩ := xa_nd.mp hD
  rw [List.map_append, List.nodup_append] at n1
  exact xa_nd.mpr ⟨n1.2.1, fun q hq => n2 q (List.mem_append_right _ hq)⟩
theorem law_cmp {x y : Int64} (h : x = y) : lg_cmp x y = 0 := by
  subst h
  have a1 := (lg_sound (x := x) (y := x)).1.mpr (Int64.le_refl x)
  have a2 := (lg_sound (x := x) (y := x)).2.mpr (Int64.le_refl x)
  have b1 := i_le.mp (Int32.not_lt.mp a1)
  have b2 := i_le.mp (Int32.not_lt.mp a2)
  exact i_eq.mpr (Int.le_antisymm b2 b1)
theorem law_inK {i k L : Nat} (hi : i + k < L) (hL : L ≤ 2048) : vp_in (nI i + nI k) L := by
  rw [nI_add]; exact vp_in_nI hi (by omega)
theorem law_in1 {i L : Nat} (hi : i + 3 < L) (hL : L ≤ 2048) : vp_in (nI i + 1) L := law_inK (k := 1) (by omega) hL
theorem law_in2 {i L : Nat} (hi : i + 3 < L) (hL : L ≤ 2048) : vp_in (nI i + 2) L := law_inK (k := 2) (by omega) hL
theorem law_in3 {i L : Nat} (hi : i + 3 < L) (hL : L ≤ 2048) : vp_in (nI i + 3) L := law_inK (k := 3) (by omega) hL
theorem law_c174 : Cond.constantLong RL 174 4294967295 ∈ wsL_law := by decide +kernel
section OPS
variable {tn : Int32} {tf : Nat → Int32} {r rc : gR} {qz qn : Int32} {hq lq : Nat → Option gR} {lfl : Nat → Int32} {w : gM}
theorem rel_hh (h : Rel tn tf r qz qn hq lq lfl w) : 0 ≤ qn.toInt ∧ qn.toInt < (14 : Nat) := by
  obtain ⟨-, -, z, n, ez, en, hz, hn, -⟩ := h.2.2.1
  rw [en, nI_toInt (by omega)]
  omega
theorem rel_okQ (h : Rel tn tf r qz qn hq lq lfl w) : okQ hq := h.2.2.1.2.1
theorem rel_okQl (h : Rel tn tf r qz qn hq lq lfl w) : okQ lq := h.2.2.2.1
end OPS
/-- what holds at every place of the law's body -/
def lawC (p : Program) (s : State) (m : MethodId) (meth : Method) (c : Code) (b L : Nat) (xs : Nat → Int32) (D : va_G) (y : Nat → ClassId) : Prop := lw_At p s m meth c b L xs ∧ gE D y s ∧ xE s ∧ lNc s ∧ xZ (fun q : Nat => s.heap.size ≤ q) s s.heap
/-- the two objects, side by side -/
def lawS (D : va_G) (y : Nat → ClassId) (av bv : Nat → Nat) (A : Nat → Prop) (H : Heap) : Prop := ∃ (od : Nat → Int64) (tn : Int32) (tf : Nat → Int32) (r rc : gR) (qz qn : Int32) (hq lq : Nat → Option gR) (lfl : Nat → Int32) (w : gM) (ga gb : Nat → Nat × Nat × Nat), va_P D vwCl (((bv 0), .inr (5, [.int w.1, .ref (bv 1), .int w.2.1, .ref (bv 2), .ref (bv 3), .ref (bv 4), .int w.2.2.1, .ref (bv 5), .ref (bv 6), .int w.2.2.2.1, .int w.2.2.2.2.1])) :: ((bv 1), .inl (y 0, 120, .inl w.2.2.2.2.2.1)) :: ((bv 2), .inl (y 0, 78, .inl w.2.2.2.2.2.2.1)) :: ((bv 3), .inl (y 0, 78, .inl w.2.2.2.2.2.2.2.1)) :: ((bv 4), .inl (y 0, 1092, .inl w.2.2.2.2.2.2.2.2.1)) :: ((bv 5), .inl (y 0, 156, .inl w.2.2.2.2.2.2.2.2.2.1)) :: ((bv 6), .inl (y 2, 2, .inl w.2.2.2.2.2.2.2.2.2.2)) :: ((av 0), .inl (y 4, 1, .inr (.inl od))) :: ((av 1), .inr (4, [.ref (av 2), .ref (av 3), .ref (av 4), .ref (av 5), .ref (av 6)])) :: ((av 2), .inr (3, [.ref (av 7), .int tn])) :: ((av 7), .inl (y 1, 120, .inl tf)) :: ((av 3), soF (av 8) (av 9) r) :: ((av 8), soV y r) :: ((av 9), soW y r) :: ((av 4), soF (av 10) (av 11) rc) :: ((av 10), soV y rc) :: ((av 11), soW y rc) :: ((av 5), .inr (0, [.ref (av 12), .int qz, .int qn])) :: ((av 12), .inl (y 3, 14, .inr (.inr (.inr (.inr (gRf ga hq)))))) :: ((av 6), .inr (1, [.ref (av 13), .ref (av 14)])) :: ((av 13), .inl (y 3, 2, .inr (.inr (.inr (.inr (gRf gb lq)))))) :: ((av 14), .inl (y 2, 2, .inl lfl)) :: gTail y ga gb hq lq) H ∧ va_D A (((bv 0), .inr (5, [.int w.1, .ref (bv 1), .int w.2.1, .ref (bv 2), .ref (bv 3), .ref (bv 4), .int w.2.2.1, .ref (bv 5), .ref (bv 6), .int w.2.2.2.1, .int w.2.2.2.2.1])) :: ((bv 1), .inl (y 0, 120, .inl w.2.2.2.2.2.1)) :: ((bv 2), .inl (y 0, 78, .inl w.2.2.2.2.2.2.1)) :: ((bv 3), .inl (y 0, 78, .inl w.2.2.2.2.2.2.2.1)) :: ((bv 4), .inl (y 0, 1092, .inl w.2.2.2.2.2.2.2.2.1)) :: ((bv 5), .inl (y 0, 156, .inl w.2.2.2.2.2.2.2.2.2.1)) :: ((bv 6), .inl (y 2, 2, .inl w.2.2.2.2.2.2.2.2.2.2)) :: ((av 0), .inl (y 4, 1, .inr (.inl od))) :: ((av 1), .inr (4, [.ref (av 2), .ref (av 3), .ref (av 4), .ref (av 5), .ref (av 6)])) :: ((av 2), .inr (3, [.ref (av 7), .int tn])) :: ((av 7), .inl (y 1, 120, .inl tf)) :: ((av 3), soF (av 8) (av 9) r) :: ((av 8), soV y r) :: ((av 9), soW y r) :: ((av 4), soF (av 10) (av 11) rc) :: ((av 10), soV y rc) :: ((av 11), soW y rc) :: ((av 5), .inr (0, [.ref (av 12), .int qz, .int qn])) :: ((av 12), .inl (y 3, 14, .inr (.inr (.inr (.inr (gRf ga hq)))))) :: ((av 6), .inr (1, [.ref (av 13), .ref (av 14)])) :: ((av 13), .inl (y 3, 2, .inr (.inr (.inr (.inr (gRf gb lq)))))) :: ((av 14), .inl (y 2, 2, .inl lfl)) :: gTail y ga gb hq lq) ∧ Rel tn tf r qz qn hq lq lfl w
/-- what follows a case -/
def lawK (p : Program) (l : Launch) (e : Env) (s : State) (m : MethodId) (below : List Frame) (meth : Method) (c : Code) (b i : Nat) (D : va_G) (y : Nat → ClassId) (av bv : Nat → Nat) (cells slots : Nat) (Q : State → Prop) : Prop := ∀ (H1 : Heap) (locs1 : List Loc) (ls1 : Array Slot), lawS D y av bv (fun q : Nat => s.heap.size ≤ q) H1 → va_S (fun q : Nat => s.heap.size ≤ q) s.heap H1 locs1 → lv_has ls1 7 [(0, .ref b), (1, .ref (av 1)), (2, .ref (bv 0)), (3, .ref (av 0)), (4, .int (nI i))] → W p l e room_1 s m #[Value.ref b] below meth c H1 locs1 (cells + 5) (slots + 92) Q (F0 m 1686 ls1 [])
