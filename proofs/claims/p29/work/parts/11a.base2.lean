/-! CELLS THAT ARE NEW, A POOL OF STORES -/
theorem va_K_eq {D : va_G} {cl : List vw_C} {tys : List (ClassId × FieldType)} {U : State} (h : va_K D cl tys U) (i j : Nat) {a b : ClassId} {ty : FieldType} (hi : tys[i]? = some (a, ty)) (hj : tys[j]? = some (b, ty)) : a = b := by
  have h1 := (h.2 i _ hi).2
  have h2 := (h.2 j _ hj).2
  unfold va_RA at h1 h2
  cases ty with
  | object C =>
    obtain ⟨k1, c1, -, -, -, e1⟩ := h1
    obtain ⟨k2, c2, -, -, -, e2⟩ := h2
    exact Option.some.inj (e1.symm.trans e2)
  | _ => exact Option.some.inj (h1.symm.trans h2)
theorem xa_mem {D : va_G} {cl : List vw_C} {ws : va_W} {H : Heap} : va_P D cl ws H ↔ ∀ q ∈ ws, va_at D cl q H :=
  ⟨fun h q hq => by obtain ⟨k, hk⟩ := List.getElem?_of_mem hq; exact h k q hk, fun h k q hk => h q (List.mem_of_getElem? hk)⟩
theorem xa_nd {A : Nat → Prop} {ws : va_W} : va_D A ws ↔ ((ws.map (fun q => q.1)).Nodup ∧ ∀ q ∈ ws, A q.1) := by
  constructor
  · intro h
    refine ⟨?_, fun q hq => by obtain ⟨k, hk⟩ := List.getElem?_of_mem hq; exact h.2 k q hk⟩
    unfold List.Nodup
    rw [List.pairwise_iff_getElem]
    intro i j hi hj hij e
    rw [List.getElem_map, List.getElem_map] at e
    rw [List.length_map] at hi hj
    have := h.1 i j _ _ (List.getElem?_eq_getElem hi) (List.getElem?_eq_getElem hj) e
    omega
  · rintro ⟨h1, h2⟩
    refine ⟨fun i j p q hp hq e => ?_, fun k q hk => h2 q (List.mem_of_getElem? hk)⟩
    unfold List.Nodup at h1
    rw [List.pairwise_iff_getElem] at h1
    obtain ⟨hi, ei⟩ := List.getElem?_eq_some_iff.mp hp
    obtain ⟨hj, ej⟩ := List.getElem?_eq_some_iff.mp hq
    rcases Nat.lt_trichotomy i j with c | c | c
    · refine absurd ?_ (h1 i j (by rw [List.length_map]; exact hi) (by rw [List.length_map]; exact hj) c)
      rw [List.getElem_map, List.getElem_map, ei, ej]; exact e
    · exact c
    · refine absurd ?_ (h1 j i (by rw [List.length_map]; exact hj) (by rw [List.length_map]; exact hi) c)
      rw [List.getElem_map, List.getElem_map, ei, ej]; exact e.symm
theorem xa_permP {D : va_G} {cl : List vw_C} {ws ws' : va_W} {H : Heap} (p : ws.Perm ws') (h : va_P D cl ws H) : va_P D cl ws' H := xa_mem.mpr fun q hq => xa_mem.mp h q (p.mem_iff.mpr hq)
theorem xa_permD {A : Nat → Prop} {ws ws' : va_W} (p : ws.Perm ws') (h : va_D A ws) : va_D A ws' := by
  obtain ⟨h1, h2⟩ := xa_nd.mp h
  exact xa_nd.mpr ⟨(p.map _).nodup_iff.mp h1, fun q hq => h2 q (p.mem_iff.mpr hq)⟩
/-- behind a call that keeps its cells and makes some: those come at the end -/
theorem xa_joinN {A0 : Nat → Prop} {D : va_G} {cl : List vw_C} {ws wc w1a w1b : va_W} {H H1 : Heap} (hP : va_P D cl ws H) (hD : va_D A0 ws) (is : List Nat) (hC : is.map (fun i => ws[i]?) = wc.map some) (hn : va_nd is = true) (hf : w1a.map (fun q => q.1) = wc.map (fun q => q.1))
    (hk : ∀ q : Nat, q < H.size → ¬ va_A wc H.size q → H1[q]? = H[q]?) (hF : ∀ q, va_A wc H.size q → A0 q) (hP1 : va_P D cl (w1a ++ w1b) H1) (hD1 : va_D (va_A wc H.size) (w1a ++ w1b)) : va_P D cl (xa_sets ws is w1a ++ w1b) H1 ∧ va_D A0 (xa_sets ws is w1a ++ w1b) := by
  have hP1a : va_P D cl w1a H1 := xa_mem.mpr fun q hq => xa_mem.mp hP1 q (List.mem_append_left _ hq)
  obtain ⟨g1, g2⟩ := xa_join hP hD is hC hn hf hk hP1a
  obtain ⟨n1, n2⟩ := xa_nd.mp hD1
  rw [List.map_append, List.nodup_append] at n1
  have hnew : ∀ q ∈ w1b, H.size ≤ q.1 := by
    intro q hq
    rcases n2 q (List.mem_append_right _ hq) with ⟨k, e, h⟩ | h
    · exfalso
      have h1 : q.1 ∈ wc.map (fun q => q.1) := List.mem_map.mpr ⟨_, List.mem_of_getElem? h, rfl⟩
      rw [← hf] at h1
      exact n1.2.2 _ h1 _ (List.mem_map.mpr ⟨q, hq, rfl⟩) rfl
    · exact h
  have hold : ∀ q ∈ xa_sets ws is w1a, q.1 < H.size := by
    intro q hq
    have hlen : is.length = w1a.length := by
      have a := congrArg List.length hC
      have b := congrArg List.length hf
      simp only [List.length_map] at a b
      omega
    have hlt : ∀ i ∈ is, i < ws.length := by
      intro i hi
      have h1 : ws[i]? ∈ wc.map some := by rw [← hC]; exact List.mem_map.mpr ⟨i, hi, rfl⟩
      obtain ⟨z, -, hz⟩ := List.mem_map.mp h1
      exact (List.getElem?_eq_some_iff.mp hz.symm).1
    obtain ⟨k, hk2⟩ := List.getElem?_of_mem hq
    rcases xa_sets_mem is w1a ws k hn hlen hlt with ⟨j, a1, a2⟩ | ⟨a1, a2⟩
    · rw [hk2] at a2
      have b1 : q.1 ∈ wc.map (fun q => q.1) := by rw [← hf]; exact List.mem_map.mpr ⟨q, List.mem_of_getElem? a2.symm, rfl⟩
      obtain ⟨z, hz, ez⟩ := List.mem_map.mp b1
      have c1 : some z ∈ is.map (fun i => ws[i]?) := by rw [hC]; exact List.mem_map.mpr ⟨z, hz, rfl⟩
      obtain ⟨i, -, hi⟩ := List.mem_map.mp c1
      rw [← ez]
      exact (hP i z hi).lt
    · rw [hk2] at a2
      exact (hP k q a2.symm).lt
  refine ⟨xa_mem.mpr fun q hq => ?_, xa_nd.mpr ⟨?_, fun q hq => ?_⟩⟩
  · rcases List.mem_append.mp hq with h | h
    · exact xa_mem.mp g1 q h
    · exact xa_mem.mp hP1 q (List.mem_append_right _ h)
  · rw [List.map_append, List.nodup_append]
    refine ⟨(xa_nd.mp g2).1, n1.2.1, ?_⟩
    intro a ha b hb e
    obtain ⟨q1, h1, e1⟩ := List.mem_map.mp ha
    obtain ⟨q2, h2, e2⟩ := List.mem_map.mp hb
    have := hold q1 h1
    have := hnew q2 h2
    omega
  · rcases List.mem_append.mp hq with h | h
    · exact (xa_nd.mp g2).2 q h
    · exact hF _ (n2 q (List.mem_append_right _ h))
section XN
variable {p : Program} {l : Launch} {e : Env} {R : Room} {s : State} {m : MethodId} {args : Array Value} {below : List Frame} {meth : Method} {c : Code} {H : Heap} {locs : List Loc} {cells slots : Nat} {Q : State → Prop}
variable {pc : Nat} {ls : Array Slot} {st0 rest : List Value} {a : Array Value} {A0 : Nat → Prop} {H0 : Heap} {D : va_G} {ws wc : va_W} {mc ms : Nat}
/-- a constructor's call: its object filled, what it made at the end -/
theorem xw_new {S : Type} {post : S → Prop} {w1a w1b : S → va_W} (hr : va_Run p l e R s m args below meth c H locs cells slots mc ms (F0 m pc ls st0) rest (va_Qv post (fun u t => va_P D vwCl (w1a u ++ w1b u) t.heap ∧ va_D (va_A wc H.size) (w1a u ++ w1b u)) (va_A wc H.size) a) (va_A wc H.size)) (hP : va_P D vwCl ws H) (hD : va_D A0 ws) (hS : va_S A0 H0 H locs) (hA : ∀ q : Nat, H0.size ≤ q → A0 q) (is : List Nat) (hC : is.map (fun i => ws[i]?) = wc.map some) (hn : va_nd is = true) (hf : ∀ u, (w1a u).map (fun q => q.1) = wc.map (fun q => q.1))
    (kk : ∀ (u : S) (H1 : Heap) (locs1 : List Loc), post u → va_P D vwCl (xa_sets ws is (w1a u) ++ w1b u) H1 → va_D A0 (xa_sets ws is (w1a u) ++ w1b u) → va_S A0 H0 H1 locs1 → W p l e R s m args below meth c H1 locs1 (cells + mc) (slots + ms) Q (F0 m (pc + 3) ls rest)) : W p l e R s m args below meth c H locs cells slots Q (F0 m pc ls st0) := by
  have hFc := va_free hD hS hA is hC
  refine va_callv hr hS (fun q _ h => hFc q h) hFc (fun u t H1 locs1 ht hvm hw hB hz1 hk1 hS1 => ?_)
  obtain ⟨hP1, hD1⟩ := hB
  rw [ht] at hP1
  obtain ⟨h1, h2⟩ := xa_joinN hP hD is hC hn (hf u) hk1 hFc hP1 hD1
  exact kk u H1 locs1 hw h1 h2 hS1
end XN
/-- a new store -/
def iniR : gR := fun k => if k = 11 then 100 else if k = 12 then 8 else 0
theorem soV_ini (y : Nat → ClassId) : soV y iniR = .inl (y 0, 32, .inl (fun _ => 0)) := by
  have h : (fun j => iniR (13 + j)) = fun _ => 0 := by funext j; unfold iniR; rw [if_neg (by omega), if_neg (by omega)]
  simp only [soV, h]
theorem soW_ini (y : Nat → ClassId) : soW y iniR = .inl (y 0, 33, .inl (fun _ => 0)) := by
  have h : (fun j => iniR (45 + j)) = fun _ => 0 := by funext j; unfold iniR; rw [if_neg (by omega), if_neg (by omega)]
  simp only [soW, h]
/-- a pool of stores, some of them there: where they are, what they hold -/
def gPool (y : Nat → ClassId) (ga : Nat → Nat × Nat × Nat) (q : Nat → Option gR) : Nat → va_W
  | 0 => []
  | n + 1 => gPool y ga q n ++ (match q n with
    | none => []
    | some r => soC y (ga n).1 (ga n).2.1 (ga n).2.2 r)
def gTail (y : Nat → ClassId) (ga gb : Nat → Nat × Nat × Nat) (hq lq : Nat → Option gR) : va_W := gPool y ga hq 14 ++ gPool y gb lq 2
def gRf (ga : Nat → Nat × Nat × Nat) (q : Nat → Option gR) : Nat → Option Nat := fun i => (q i).map (fun _ => (ga i).1)
theorem gPool_same {y : Nat → ClassId} {ga gb : Nat → Nat × Nat × Nat} {q q' : Nat → Option gR} : ∀ (n : Nat), (∀ i, i < n → q i = q' i ∧ ga i = gb i) → gPool y ga q n = gPool y gb q' n
  | 0, _ => rfl
  | n + 1, h => by
    have h1 := h n (by omega)
    unfold gPool
    rw [gPool_same n (fun i hi => h i (by omega)), h1.1, h1.2]
/-- one of the pool, ahead of the others -/
theorem gPool_k {y : Nat → ClassId} {ga gb : Nat → Nat × Nat × Nat} {q q' : Nat → Option gR} {k : Nat} {r : gR} (hk : q k = some r) (hk' : q' k = none) (h : ∀ i, i ≠ k → q i = q' i ∧ ga i = gb i) : ∀ (n : Nat), k < n → (gPool y ga q n).Perm (soC y (ga k).1 (ga k).2.1 (ga k).2.2 r ++ gPool y gb q' n)
  | 0, hn => absurd hn (Nat.not_lt_zero _)
  | n + 1, hn => by
    unfold gPool
    by_cases e : k = n
    · subst e
      rw [hk, hk', gPool_same k (fun i hi => h i (by omega))]
      simp only [List.append_nil]
      exact List.perm_append_comm
    · have h1 := h n (fun z => e z.symm)
      rw [← h1.1, h1.2, ← List.append_assoc]
      exact (gPool_k hk hk' h n (by omega)).append_right _
theorem xa_swap (a t n : va_W) : ((a ++ t) ++ n).Perm ((a ++ n) ++ t) := by
  rw [List.append_assoc, List.append_assoc]
  exact List.perm_append_comm.append_left a
def gHole (q : Nat → Option gR) (k : Nat) : Nat → Option gR := fun i => if i = k then none else q i
def gSet (ga : Nat → Nat × Nat × Nat) (k : Nat) (e : Nat × Nat × Nat) : Nat → Nat × Nat × Nat := fun i => if i = k then e else ga i
def gPut (q : Nat → Option gR) (k : Nat) (r : gR) : Nat → Option gR := fun i => if i = k then some r else q i
theorem gHole_none {q : Nat → Option gR} {k : Nat} (h : q k = none) : gHole q k = q := by
  funext i
  unfold gHole
  split
  · rename_i e; rw [e, h]
  · rfl
theorem gT_outH {y : Nat → ClassId} {ga gb : Nat → Nat × Nat × Nat} {hq lq : Nat → Option gR} {k : Nat} {s : gR} (hk : k < 14) (h : hq k = some s) (C : va_W) : (C ++ gTail y ga gb hq lq).Perm ((C ++ soC y (ga k).1 (ga k).2.1 (ga k).2.2 s) ++ (gPool y ga (gHole hq k) 14 ++ gPool y gb lq 2)) := by
  have p := gPool_k (y := y) (ga := ga) (gb := ga) (q := hq) (q' := gHole hq k) h (by unfold gHole; rw [if_pos rfl]) (fun i hi => ⟨by unfold gHole; rw [if_neg hi], rfl⟩) 14 hk
  unfold gTail
  rw [List.append_assoc, ← List.append_assoc (soC y _ _ _ s)]
  exact (p.append_right _).append_left _
theorem gT_outL {y : Nat → ClassId} {ga gb : Nat → Nat × Nat × Nat} {hq lq : Nat → Option gR} {k : Nat} {s : gR} (hk : k < 2) (h : lq k = some s) (C : va_W) : (C ++ gTail y ga gb hq lq).Perm ((C ++ soC y (gb k).1 (gb k).2.1 (gb k).2.2 s) ++ (gPool y ga hq 14 ++ gPool y gb (gHole lq k) 2)) := by
  have p := gPool_k (y := y) (ga := gb) (gb := gb) (q := lq) (q' := gHole lq k) h (by unfold gHole; rw [if_pos rfl]) (fun i hi => ⟨by unfold gHole; rw [if_neg hi], rfl⟩) 2 hk
  unfold gTail
  rw [List.append_assoc]
  refine List.Perm.append_left _ ?_
  refine ((p.append_left _).trans ?_)
  rw [← List.append_assoc, ← List.append_assoc]
  exact List.perm_append_comm.append_right _
theorem gT_inH {y : Nat → ClassId} {ga gb : Nat → Nat × Nat × Nat} {hq lq : Nat → Option gR} {k : Nat} {s : gR} (hk : k < 14) (q v w : Nat) (C : va_W) : ((C ++ soC y q v w s) ++ (gPool y ga (gHole hq k) 14 ++ gPool y gb lq 2)).Perm (C ++ gTail y (gSet ga k (q, v, w)) gb (gPut hq k s) lq) := by
  have p := gPool_k (y := y) (ga := gSet ga k (q, v, w)) (gb := ga) (q := gPut hq k s) (q' := gHole hq k) (r := s) (k := k) (by unfold gPut; rw [if_pos rfl]) (by unfold gHole; rw [if_pos rfl]) (fun i hi => ⟨by unfold gHole gPut; rw [if_neg hi, if_neg hi], by unfold gSet; rw [if_neg hi]⟩) 14 hk
  have e : gSet ga k (q, v, w) k = (q, v, w) := by unfold gSet; rw [if_pos rfl]
  rw [e] at p
  unfold gTail
  rw [List.append_assoc, ← List.append_assoc (soC y _ _ _ s)]
  exact (p.symm.append_right _).append_left _
theorem gT_inL {y : Nat → ClassId} {ga gb : Nat → Nat × Nat × Nat} {hq lq : Nat → Option gR} {k : Nat} {s : gR} (hk : k < 2) (q v w : Nat) (C : va_W) : ((C ++ soC y q v w s) ++ (gPool y ga hq 14 ++ gPool y gb (gHole lq k) 2)).Perm (C ++ gTail y ga (gSet gb k (q, v, w)) hq (gPut lq k s)) := by
  have p := gPool_k (y := y) (ga := gSet gb k (q, v, w)) (gb := gb) (q := gPut lq k s) (q' := gHole lq k) (r := s) (k := k) (by unfold gPut; rw [if_pos rfl]) (by unfold gHole; rw [if_pos rfl]) (fun i hi => ⟨by unfold gHole gPut; rw [if_neg hi, if_neg hi], by unfold gSet; rw [if_neg hi]⟩) 2 hk
  have e : gSet gb k (q, v, w) k = (q, v, w) := by unfold gSet; rw [if_pos rfl]
  rw [e] at p
  unfold gTail
  rw [List.append_assoc]
  refine List.Perm.append_left _ ?_
  refine List.Perm.trans ?_ (p.symm.append_left _)
  rw [← List.append_assoc, ← List.append_assoc]
  exact List.perm_append_comm.append_right _
theorem gT_outH' {y : Nat → ClassId} {ga gb : Nat → Nat × Nat × Nat} {hq lq : Nat → Option gR} {k : Nat} {s : gR} {T T0 : va_W} (hT : gTail y ga gb hq lq = T) (hT0 : gPool y ga (gHole hq k) 14 ++ gPool y gb lq 2 = T0) (hk : k < 14) (h : hq k = some s) (C : va_W) : (C ++ T).Perm ((C ++ soC y (ga k).1 (ga k).2.1 (ga k).2.2 s) ++ T0) := by
  subst hT hT0; exact gT_outH hk h C
theorem gT_outL' {y : Nat → ClassId} {ga gb : Nat → Nat × Nat × Nat} {hq lq : Nat → Option gR} {k : Nat} {s : gR} {T T0 : va_W} (hT : gTail y ga gb hq lq = T) (hT0 : gPool y ga hq 14 ++ gPool y gb (gHole lq k) 2 = T0) (hk : k < 2) (h : lq k = some s) (C : va_W) : (C ++ T).Perm ((C ++ soC y (gb k).1 (gb k).2.1 (gb k).2.2 s) ++ T0) := by
  subst hT hT0; exact gT_outL hk h C
theorem gT_inH' {y : Nat → ClassId} {ga gb : Nat → Nat × Nat × Nat} {hq lq : Nat → Option gR} {k : Nat} {s : gR} {T T0 : va_W} {q v w : Nat} (hT : gTail y (gSet ga k (q, v, w)) gb (gPut hq k s) lq = T) (hT0 : gPool y ga (gHole hq k) 14 ++ gPool y gb lq 2 = T0) (hk : k < 14) (C : va_W) : ((C ++ soC y q v w s) ++ T0).Perm (C ++ T) := by
  subst hT hT0; exact gT_inH hk q v w C
theorem gT_inL' {y : Nat → ClassId} {ga gb : Nat → Nat × Nat × Nat} {hq lq : Nat → Option gR} {k : Nat} {s : gR} {T T0 : va_W} {q v w : Nat} (hT : gTail y ga (gSet gb k (q, v, w)) hq (gPut lq k s) = T) (hT0 : gPool y ga hq 14 ++ gPool y gb (gHole lq k) 2 = T0) (hk : k < 2) (C : va_W) : ((C ++ soC y q v w s) ++ T0).Perm (C ++ T) := by
  subst hT hT0; exact gT_inL hk q v w C
theorem gRf_set {ga : Nat → Nat × Nat × Nat} {q : Nat → Option gR} {k : Nat} {s : gR} (e : Nat × Nat × Nat) : gRf (gSet ga k e) (gPut q k s) = va_up (gRf ga q) k (some e.1) := by
  funext i
  unfold gRf gSet gPut va_up
  by_cases h : i = k
  · rw [if_pos h, if_pos h, if_pos h]; rfl
  · rw [if_neg h, if_neg h, if_neg h]
theorem gRf_self {ga : Nat → Nat × Nat × Nat} {q : Nat → Option gR} {k a : Nat} (h : gRf ga q k = some a) : va_up (gRf ga q) k (some a) = gRf ga q := by
  funext i
  unfold va_up
  split
  · rename_i e; rw [e, h]
  · rfl
theorem gRf_none {ga : Nat → Nat × Nat × Nat} {q : Nat → Option gR} {k : Nat} (h : q k = none) : gRf ga q k = none := by unfold gRf; rw [h]; rfl
theorem gRf_some {ga : Nat → Nat × Nat × Nat} {q : Nat → Option gR} {k : Nat} {s : gR} (h : q k = some s) : gRf ga q k = some (ga k).1 := by unfold gRf; rw [h]; rfl
theorem gUp_at {f : Nat → Option Nat} {k : Nat} {v : Option Nat} : va_up f k v k = v := by unfold va_up; rw [if_pos rfl]
/-- every store of a pool is a sound one -/
def okQ (q : Nat → Option gR) : Prop := ∀ i s, q i = some s → okC s
theorem va_freeW {A0 : Nat → Prop} {ws : va_W} {H0 H : Heap} {locs : List Loc} (hD : va_D A0 ws) (hS : va_S A0 H0 H locs) (hA : ∀ q : Nat, H0.size ≤ q → A0 q) : ∀ q, va_A ws H.size q → A0 q := by
  rintro q (⟨k, e, h⟩ | h)
  · exact hD.2 k _ h
  · exact hA q (Nat.le_trans hS.1 h)
section XE
variable {p : Program} {l : Launch} {e : Env} {R : Room} {s : State} {m : MethodId} {args : Array Value} {below : List Frame} {meth : Method} {c : Code} {H : Heap} {locs : List Loc} {cells slots : Nat} {Q : State → Prop}
variable {pc : Nat} {ls : Array Slot} {st0 rest : List Value} {a : Array Value} {A0 : Nat → Prop} {H0 : Heap} {D : va_G} {ws : va_W} {mc ms : Nat}
/-- a call that takes the whole world, and hands back one whose pool lies anywhere -/
theorem xw_callEv {S G : Type} {post : S → Prop} {w1 : S → G → G → va_W} (hr : va_Run p l e R s m args below meth c H locs cells slots mc ms (F0 m pc ls st0) rest (va_Qv post (fun u t => ∃ g1 g2, va_P D vwCl (w1 u g1 g2) t.heap ∧ va_D (va_A ws H.size) (w1 u g1 g2)) (va_A ws H.size) a) (va_A ws H.size)) (hD : va_D A0 ws) (hS : va_S A0 H0 H locs) (hA : ∀ q : Nat, H0.size ≤ q → A0 q)
    (kk : ∀ (u : S) (g1 g2 : G) (H1 : Heap) (locs1 : List Loc), post u → va_P D vwCl (w1 u g1 g2) H1 → va_D A0 (w1 u g1 g2) → va_S A0 H0 H1 locs1 → W p l e R s m args below meth c H1 locs1 (cells + mc) (slots + ms) Q (F0 m (pc + 3) ls rest)) : W p l e R s m args below meth c H locs cells slots Q (F0 m pc ls st0) := by
  have hFc := va_freeW hD hS hA
  refine va_callv hr hS (fun q _ h => hFc q h) hFc (fun u t H1 locs1 ht hvm hw hB hz1 hk1 hS1 => ?_)
  obtain ⟨g1, g2, hP1, hD1⟩ := hB
  rw [ht] at hP1
  exact kk u g1 g2 H1 locs1 hw hP1 (hD1.weaken (fun k q _ h => hFc q.1 h)) hS1
theorem xw_callEi {S G : Type} {post : Int32 → S → Prop} {w1 : S → G → G → va_W} (hr : va_Run p l e R s m args below meth c H locs cells slots mc ms (F0 m pc ls st0) rest (va_Qi post (fun u t => ∃ g1 g2, va_P D vwCl (w1 u g1 g2) t.heap ∧ va_D (va_A ws H.size) (w1 u g1 g2)) (va_A ws H.size) a) (va_A ws H.size)) (hD : va_D A0 ws) (hS : va_S A0 H0 H locs) (hA : ∀ q : Nat, H0.size ≤ q → A0 q)
    (kk : ∀ (r : Int32) (u : S) (g1 g2 : G) (H1 : Heap) (locs1 : List Loc), post r u → va_P D vwCl (w1 u g1 g2) H1 → va_D A0 (w1 u g1 g2) → va_S A0 H0 H1 locs1 → W p l e R s m args below meth c H1 locs1 (cells + mc) (slots + ms) Q (F0 m (pc + 3) ls (.int r :: rest))) : W p l e R s m args below meth c H locs cells slots Q (F0 m pc ls st0) := by
  have hFc := va_freeW hD hS hA
  refine va_calli hr hS (fun q _ h => hFc q h) hFc (fun r u t H1 locs1 ht hvm hw hB hz1 hk1 hS1 => ?_)
  obtain ⟨g1, g2, hP1, hD1⟩ := hB
  rw [ht] at hP1
  exact kk r u g1 g2 H1 locs1 hw hP1 (hD1.weaken (fun k q _ h => hFc q.1 h)) hS1
end XE
