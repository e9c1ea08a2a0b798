section
-- ===== PART A: goes FIRST, ahead of the names: the tables' words, and 'selects' of the private methods out of them =====
/-- a private method of a class that the tables say can be made, by its rows of tables_1 -/
def lw_okq (q : MethodName × Nat) : Prop := (q.1.cls ≠ "java/lang/invoke/MethodHandle" ∧ q.1.cls ≠ "java/lang/invoke/VarHandle") ∧ Cond.instantiable q.1.cls q.2 ∈ tables_1 ∧ Cond.privateMethod q.1 ∈ tables_1 ∧ Cond.instanceMethod q.1 ∈ tables_1
theorem lw_p0 : lw_okq (⟨"java/lang/Throwable", "fillInStackTrace", "(I)Ljava/lang/Throwable;"⟩, 6) := ⟨⟨by decide +kernel, by decide +kernel⟩, List.mem_of_getElem? (i := 197) (by decide +kernel), List.mem_of_getElem? (i := 195) (by decide +kernel), List.mem_of_getElem? (i := 196) (by decide +kernel)⟩
theorem lw_p1 : lw_okq (⟨"GapLines$Text", "errorInHead", "()I"⟩, 2) := ⟨⟨by decide +kernel, by decide +kernel⟩, List.mem_of_getElem? (i := 24) (by decide +kernel), List.mem_of_getElem? (i := 265) (by decide +kernel), List.mem_of_getElem? (i := 266) (by decide +kernel)⟩
theorem lw_p2 : lw_okq (⟨"GapLines$Text", "signAt", "(I)C"⟩, 2) := ⟨⟨by decide +kernel, by decide +kernel⟩, List.mem_of_getElem? (i := 24) (by decide +kernel), List.mem_of_getElem? (i := 269) (by decide +kernel), List.mem_of_getElem? (i := 270) (by decide +kernel)⟩
theorem lw_p3 : lw_okq (⟨"GapLines$Text", "errorInNumber", "(IIII)I"⟩, 2) := ⟨⟨by decide +kernel, by decide +kernel⟩, List.mem_of_getElem? (i := 24) (by decide +kernel), List.mem_of_getElem? (i := 273) (by decide +kernel), List.mem_of_getElem? (i := 274) (by decide +kernel)⟩
theorem lw_p4 : lw_okq (⟨"GapLines$Text", "errorInCommand", "(I)I"⟩, 2) := ⟨⟨by decide +kernel, by decide +kernel⟩, List.mem_of_getElem? (i := 24) (by decide +kernel), List.mem_of_getElem? (i := 277) (by decide +kernel), List.mem_of_getElem? (i := 278) (by decide +kernel)⟩
theorem lw_p5 : lw_okq (⟨"GapLines$Text", "commandLength", "(I)I"⟩, 2) := ⟨⟨by decide +kernel, by decide +kernel⟩, List.mem_of_getElem? (i := 24) (by decide +kernel), List.mem_of_getElem? (i := 281) (by decide +kernel), List.mem_of_getElem? (i := 282) (by decide +kernel)⟩
theorem lw_p6 : lw_okq (⟨"GapLines$Text", "numberAt", "(II)I"⟩, 2) := ⟨⟨by decide +kernel, by decide +kernel⟩, List.mem_of_getElem? (i := 24) (by decide +kernel), List.mem_of_getElem? (i := 306) (by decide +kernel), List.mem_of_getElem? (i := 307) (by decide +kernel)⟩
theorem lw_p7 : lw_okq (⟨"GapLines", "requireLine", "(I)V"⟩, 5) := ⟨⟨by decide +kernel, by decide +kernel⟩, List.mem_of_getElem? (i := 16) (by decide +kernel), List.mem_of_getElem? (i := 412) (by decide +kernel), List.mem_of_getElem? (i := 413) (by decide +kernel)⟩
theorem lw_p8 : lw_okq (⟨"GapLines", "requirePlace", "(I)V"⟩, 5) := ⟨⟨by decide +kernel, by decide +kernel⟩, List.mem_of_getElem? (i := 16) (by decide +kernel), List.mem_of_getElem? (i := 450) (by decide +kernel), List.mem_of_getElem? (i := 451) (by decide +kernel)⟩
theorem lw_p9 : lw_okq (⟨"GapLines", "requireStore", "()V"⟩, 5) := ⟨⟨by decide +kernel, by decide +kernel⟩, List.mem_of_getElem? (i := 16) (by decide +kernel), List.mem_of_getElem? (i := 547) (by decide +kernel), List.mem_of_getElem? (i := 548) (by decide +kernel)⟩
theorem lw_p10 : lw_okq (⟨"GapLines", "wearIfEvery", "(III)I"⟩, 5) := ⟨⟨by decide +kernel, by decide +kernel⟩, List.mem_of_getElem? (i := 16) (by decide +kernel), List.mem_of_getElem? (i := 608) (by decide +kernel), List.mem_of_getElem? (i := 609) (by decide +kernel)⟩
def lw_privs_1 : List (MethodName × Nat) := [(⟨"java/lang/Throwable", "fillInStackTrace", "(I)Ljava/lang/Throwable;"⟩, 6), (⟨"GapLines$Text", "errorInHead", "()I"⟩, 2), (⟨"GapLines$Text", "signAt", "(I)C"⟩, 2), (⟨"GapLines$Text", "errorInNumber", "(IIII)I"⟩, 2), (⟨"GapLines$Text", "errorInCommand", "(I)I"⟩, 2), (⟨"GapLines$Text", "commandLength", "(I)I"⟩, 2), (⟨"GapLines$Text", "numberAt", "(II)I"⟩, 2), (⟨"GapLines", "requireLine", "(I)V"⟩, 5), (⟨"GapLines", "requirePlace", "(I)V"⟩, 5), (⟨"GapLines", "requireStore", "()V"⟩, 5), (⟨"GapLines", "wearIfEvery", "(III)I"⟩, 5)]
theorem lw_r1 : ∀ q ∈ lw_privs_1, lw_okq q := List.forall_mem_cons.mpr ⟨lw_p0, List.forall_mem_cons.mpr ⟨lw_p1, List.forall_mem_cons.mpr ⟨lw_p2, List.forall_mem_cons.mpr ⟨lw_p3, List.forall_mem_cons.mpr ⟨lw_p4, List.forall_mem_cons.mpr ⟨lw_p5, List.forall_mem_cons.mpr ⟨lw_p6, List.forall_mem_cons.mpr ⟨lw_p7, List.forall_mem_cons.mpr ⟨lw_p8, List.forall_mem_cons.mpr ⟨lw_p9, List.forall_mem_cons.mpr ⟨lw_p10, fun _ h => absurd h List.not_mem_nil⟩⟩⟩⟩⟩⟩⟩⟩⟩⟩⟩
def lw_privs : List (MethodName × Nat) := lw_privs_1
def lw_tbl : List Cond := k2_sels lw_privs ++ tables_1
theorem lw_privs_ok : ∀ q ∈ lw_privs, lw_okq q := lw_r1
end
section
/-! ===== BEGIN words of one list among another's, by their places ===== -/
theorem goodIn_r {big : List Cond} (ws : List Cond) (ps : List Nat) (hp : ws = ps.filterMap (fun i => big[i]?)) (h : ws.all goodWord = true) : GoodIn big ws := by
  intro w hw
  have h1 := List.all_eq_true.mp h w hw
  rw [hp] at hw
  obtain ⟨i, -, hi⟩ := List.mem_filterMap.mp hw
  have hm : w ∈ big := by first | exact List.mem_of_getElem? hi | exact List.getElem?_mem hi
  exact ⟨hm, good_of_word h1⟩
theorem goodIn_app {big a b : List Cond} (ha : GoodIn big a) (hb : GoodIn big b) : GoodIn big (a ++ b) := fun w h => (List.mem_append.mp h).elim (ha w) (hb w)
theorem goodIn_ca {big a b : List Cond} {c : Cond} (ha : GoodIn big (c :: a)) (hb : GoodIn big b) : GoodIn big (c :: (a ++ b)) := fun w h => (List.mem_cons.mp h).elim (fun e => ha w (List.mem_cons.mpr (Or.inl e))) (fun h => (List.mem_append.mp h).elim (fun h => ha w (List.mem_cons.mpr (Or.inr h))) (hb w))
theorem goodIn_sub {big ws : List Cond} (hm : ∀ w ∈ ws, w ∈ big) (h : ws.all goodWord = true) : GoodIn big ws := fun w hw => ⟨hm w hw, good_of_word (List.all_eq_true.mp h w hw)⟩
/-! ===== END ===== -/

/-! ===== BEGIN exceptions that leave a method, and their catching by the caller (launches without stack traces) ===== -/
section VXA
/-! The laws vx_back, vx_callV, vx_callS, vx_callSW, vx_throw0, vx_throwS follow proofs of the library, with one case more: JvmDerived/Free/Laws.lean (Back.of_free), Shelf42/LK1.lean (callV, callS), Shelf/KitTraced.lean (throwNew0V, throwNewS). -/
/-- where a method has thrown q: the class by its name, the cell, what was written, the world -/
def vx_T (XC : String → State → State → Prop) (st : State) (q : Addr) (t : State) (mc ms : Nat) (free : Addr → Prop) : Prop :=
  ∃ (E : String) (ce : Cell) (L : List Loc), XC E st t ∧ t.heap[q]? = some ce ∧ ce.vm = .none ∧ st.vm.findClass E = some ce.cls ∧ st.WarmedH t.vm ∧ st.sameButNew ({ t with vm := st.vm } : State) L mc ms ∧ ∀ z ∈ L, free z.base
def vx_Q (Qc : Array Value → State → Outcome → State → Prop) (XC : String → State → State → Prop) (mc ms : Nat) (free : Addr → Prop) : Array Value → State → Outcome → State → Prop := fun a st o t =>
  (Qc a st o t ∧ ∃ L, FrameEnd st o t L mc ms ∧ ∀ q ∈ L, free q.base) ∨ ∃ q, o = .threw q ∧ vx_T XC st q t mc ms free
/-- a callee that returns or throws -/
def vx_Met (l : Launch) (y : MethodName) (ws : List Cond) (rm : Room) (Pc : Array Value → State → Prop) (Qc : Array Value → State → Outcome → State → Prop) (XC : String → State → State → Prop) (mc ms : Nat) (free : Addr → Prop) : Prop :=
  MetFree l y (headSpec ws rm) Pc (fun _ _ _ _ _ => True) (vx_Q Qc XC mc ms free)
def vx_Post (XC : String → State → State → Prop) (mc ms : Nat) (free : Addr → Prop) : Pt → Array Value → Addr → Pt → Prop := fun A a q B =>
  ∃ (g : JFrame) (mk : MethodId) (t : State) (L : List Loc) (E : String) (ce : Cell), B.U.heap = t.heap ∧ B.U.vm = t.vm ∧ XC E (A.U.calling g mk a) t ∧ t.heap[q]? = some ce ∧ ce.vm = .none ∧ A.U.vm.findClass E = some ce.cls ∧ B.locs = A.locs ++ L ∧ (∀ z ∈ L, free z.base) ∧ B.cells = A.cells + mc ∧ B.slots = A.slots + ms
def vx_Back (l : Launch) (R : Room) (p : Program) (e : Env) (below : List Frame) (s : State) (sargs : Array Value) (y : MethodName) (len W9 : Nat)
    (Pre : Pt → Array Value → Prop) (Post : Pt → Array Value → Option Value → Pt → Prop) (PostX : Pt → Array Value → Addr → Pt → Prop) : Prop :=
  ∀ (m : MethodId) (meth : Method) (c : Code) (A : Pt) (g : JFrame) (ig : Instr) (mk : MethodId) (a : Array Value),
    Stand p l e R s m sargs below meth c A.U A.locs A.cells A.slots → g.method = m → g.locals.size = c.maxLocals → decode c.code g.pc = .ok (ig, len) →
    2 * g.monitorRoom + (g.stack.map fun v => v.category).sum ≤ W9 → A.U.methodNamed? y = some mk → Pre A a →
    (∃ (v : Option Value) (B : Pt), Stand p l e R s m sargs below meth c B.U B.locs B.cells B.slots ∧ Post A a v B ∧
      Steps p.tables e below (doInvoke e (A.U.setTop g) [] mk a).1 (B.U.setTop { g with pc := g.pc + len, stack := v.toList ++ g.stack })) ∨
    (∃ (q : Addr) (B : Pt), Stand p l e R s m sargs below meth c B.U B.locs B.cells B.slots ∧ PostX A a q B ∧
      Steps p.tables e below (doInvoke e (A.U.setTop g) [] mk a).1 ((B.U.setTop g).pushFrame (.throwing q)))
section Payer
variable {l : Launch} {R : Room} {p : Program} {e : Env} {below : List Frame} {s : State} {sargs : Array Value} {y : MethodName} {len W9 : Nat}
theorem vx_back {ws : List Cond} {rm : Room} {Pc : Array Value → State → Prop} {Qc : Array Value → State → Outcome → State → Prop} {XC : String → State → State → Prop} {mc ms : Nat} {free : Addr → Prop} {bytes : ByteArray} {maxL : Nat} {ret : Option FieldType}
    (hM : vx_Met l y ws rm Pc Qc XC mc ms free) (hblind : FrameBlind Pc) (hrc : rm.cells = mc) (hrs : rm.slots = ms)
    (hframes : rm.frames + 1 ≤ R.frames) (hlocals : W9 + (maxL + 11) + rm.locals ≤ R.locals)
    (hws : ∀ w ∈ ws, ∀ a' U, s.WarmedH U.vm → w.before a' U = true) (hcode : Cond.code y bytes maxL ret ∈ ws) (hinit : ∀ a' U, s.WarmedH U.vm → (Cond.initialized y.cls).before a' U = true) :
    vx_Back l R p e below s sargs y len W9 (PreOf R mc ms Pc) (PostOf Qc mc ms free) (vx_Post XC mc ms free) := by
  intro m meth c A g ig mk a X hg hsize hdg hW hn hp
  have h1 : (headSpec ws rm).pre.before a A.U = true := atoms_intro fun w hw => hws w hw _ _ X.warmed
  have h2 : (Cond.code y bytes maxL ret).before a A.U = true := hws _ hcode _ _ X.warmed
  have h3 : (Cond.initialized y.cls).before a A.U = true := hinit _ _ X.warmed
  have h4 : A.cells + (headSpec ws rm).room.cells ≤ R.cells := by rw [show (headSpec ws rm).room.cells = mc from hrc]; exact hp.1
  have h5 : A.slots + (headSpec ws rm).room.slots ≤ R.slots := by rw [show (headSpec ws rm).room.slots = ms from hrs]; exact hp.2.1
  have hPc : Pc a (A.U.calling g mk a) := hblind _ _ _ _ hp.2.2
  obtain ⟨U, Ls, c0, s0⟩ := A
  dsimp only [Pt.U, Pt.locs, Pt.cells, Pt.slots] at h1 h2 h3 h4 h5 X hn hPc ⊢
  obtain ⟨methY, cY, hmY, hcY, -, hlY, -, -, -, -⟩ := Cond.code_spec hn h2
  obtain ⟨kY, hkY, -⟩ := className_of_methodNamed hn
  have hinitY : kY.init = .initialized := Cond.initialized_spec (findClass_of_methodNamed hn) hkY h3
  have h : At U g.method c below := by rw [hg]; exact X.here
  have hlocals9 : W9 + (maxL + 11) + (headSpec ws rm).room.locals ≤ R.locals := hlocals
  have happ : (headSpec ws rm).appliesLoose y e.platform (U.calling g mk a) = true :=
    Spec.appliesLoose_calling (g := g) h hdg hn hkY hinitY
      (X.room_calling (g := g) (R' := (headSpec ws rm).room) hsize hmY hcY hframes (by rw [hlY]; omega) h4 h5) h1
  obtain ⟨mid, hmid⟩ := h.above
  have hfr : (U.setTop g).frames = (.java g :: mid) ++ below := by rw [State.frames_setTop' g h.top, hmid]; rfl
  obtain ⟨o, s₂, hsteps, -, hend, hq⟩ := Steps.callFree hM p X.admits X.cas X.clock (acts := []) hfr happ hPc trivial
  have hq' : vx_Q Qc XC mc ms free a (U.calling g mk a) o s₂ := hq
  rw [State.frames_setTop' g h.top] at hend
  obtain ⟨g₀, hg0⟩ := Option.isSome_iff_exists.mp h.top
  obtain ⟨r, hr⟩ := State.topJava?_eq_some.mp hg0
  have hr' : (({ U with heap := s₂.heap, slotsUsed := s₂.slotsUsed } : State).setVm s₂.vm).frames = .java g₀ :: r := hr
  rcases hq' with ⟨hqc, L, hfe, hL⟩ | ⟨q, rfl, E, ce, L, hx, hce, hcv, hcl, hW₂, hsm, hL⟩
  · obtain ⟨⟨v, rfl⟩, hW₂, e2, q2, q3, q4, q5, q6⟩ := id hfe
    have e3 : s₂ = ({ (U.calling g mk a).setFrames s₂.frames with heap := s₂.heap, slotsUsed := s₂.slotsUsed } : State).setVm s₂.vm := by
      have : s₂ = ({ s₂ with vm := (U.calling g mk a).vm } : State).setVm s₂.vm := rfl
      rw [e2] at this
      exact this
    obtain ⟨c₂, i₂, len₂, hc₂, hd₂, hf₂⟩ := hend
    have hW' : U.WarmedH s₂.vm := hW₂
    have hcc : c₂ = c := by
      have h1 : s₂.code? g.method = U.code? g.method := by
        rw [State.code?_eq, State.code?_eq, hW'.alike.method?]
      exact Option.some.inj (hc₂.symm.trans (h1.trans h.code))
    subst hcc
    have hlen : len₂ = len := by rw [hdg] at hd₂; cases hd₂; rfl
    subst hlen
    have hs₂ : s₂ = (({ U with heap := s₂.heap, slotsUsed := s₂.slotsUsed } : State).setVm s₂.vm).setTop { g with pc := g.pc + len₂, stack := v.toList ++ g.stack } := by
      refine e3.trans ?_
      rw [hf₂, State.calling_eq h.top, State.setFrames_setFrames, State.setTop_of_frames _ hr', hr]
      rfl
    have hsame : U.sameButNew ({ U with heap := s₂.heap, slotsUsed := s₂.slotsUsed } : State) L mc ms := by
      refine ⟨?_, q2, q3, q4, q5, q6⟩
      obtain ⟨t, ht, -⟩ := State.frames_cons hr
      show ({ U with heap := s₂.heap, slotsUsed := s₂.slotsUsed } : State) = { U.setFrames U.frames with heap := s₂.heap, slotsUsed := s₂.slotsUsed }
      rw [State.setFrames_self ht]
    subst hg
    refine Or.inl ⟨v, ⟨(({ U with heap := s₂.heap, slotsUsed := s₂.slotsUsed } : State).setVm s₂.vm), Ls ++ L, c0 + mc, s0 + ms⟩,
      ⟨X.admits, X.cas, X.clock, X.frames, X.room, X.hears, X.method, X.code, (X.here.setHeapUsed s₂.heap s₂.slotsUsed).setVm hW'.alike, X.tail, State.WarmedH.trans X.warmed hW', X.limits, X.bytes, X.same.trans (hsame.setVm s.vm)⟩,
      ⟨g, mk, s₂, L, rfl, rfl, hqc, rfl, hL, rfl, rfl⟩, ?_⟩
    show Steps p.tables e below _ ((({ U with heap := s₂.heap, slotsUsed := s₂.slotsUsed } : State).setVm s₂.vm).setTop { g with pc := g.pc + len₂, stack := v.toList ++ g.stack })
    rw [← hs₂]
    exact hsteps
  · obtain ⟨e2, q2, q3, q4, q5, q6⟩ := id hsm
    have e3 : s₂ = ({ (U.calling g mk a).setFrames s₂.frames with heap := s₂.heap, slotsUsed := s₂.slotsUsed } : State).setVm s₂.vm := by
      have : s₂ = ({ s₂ with vm := (U.calling g mk a).vm } : State).setVm s₂.vm := rfl
      rw [e2] at this
      exact this
    have hf₂ : s₂.frames = .throwing q :: .java g :: U.frames.tail := hend
    have hW' : U.WarmedH s₂.vm := hW₂
    have hs₂ : s₂ = ((({ U with heap := s₂.heap, slotsUsed := s₂.slotsUsed } : State).setVm s₂.vm).setTop g).pushFrame (.throwing q) := by
      refine e3.trans ?_
      rw [hf₂, State.calling_eq h.top, State.setFrames_setFrames, State.pushFrame, State.frames_setTop _ hr', State.setTop_of_frames _ hr', State.setFrames_setFrames, hr]
      rfl
    have hsame : U.sameButNew ({ U with heap := s₂.heap, slotsUsed := s₂.slotsUsed } : State) L mc ms := by
      refine ⟨?_, q2, q3, q4, q5, q6⟩
      obtain ⟨t, ht, -⟩ := State.frames_cons hr
      show ({ U with heap := s₂.heap, slotsUsed := s₂.slotsUsed } : State) = { U.setFrames U.frames with heap := s₂.heap, slotsUsed := s₂.slotsUsed }
      rw [State.setFrames_self ht]
    subst hg
    refine Or.inr ⟨q, ⟨(({ U with heap := s₂.heap, slotsUsed := s₂.slotsUsed } : State).setVm s₂.vm), Ls ++ L, c0 + mc, s0 + ms⟩,
      ⟨X.admits, X.cas, X.clock, X.frames, X.room, X.hears, X.method, X.code, (X.here.setHeapUsed s₂.heap s₂.slotsUsed).setVm hW'.alike, X.tail, State.WarmedH.trans X.warmed hW', X.limits, X.bytes, X.same.trans (hsame.setVm s.vm)⟩,
      ⟨g, mk, s₂, L, E, ce, rfl, rfl, hx, hce, hcv, hcl, rfl, hL, rfl, rfl⟩, ?_⟩
    show Steps p.tables e below _ (((({ U with heap := s₂.heap, slotsUsed := s₂.slotsUsed } : State).setVm s₂.vm).setTop g).pushFrame (.throwing q))
    rw [← hs₂]
    exact hsteps
end Payer
section Calls
variable {p : Program} {l : Launch} {e : Env} {R : Room} {s : State} {m : MethodId} {args : Array Value} {below : List Frame} {meth : Method} {c : Code} {T : State} {locs : List Loc} {cells slots : Nat}
theorem vx_callV (X : Stand p l e R s m args below meth c T locs cells slots) (hexec : p.tables.exec = Jvm.exec) {own C : String} {index : Nat} {y : MethodName} {bytes : ByteArray} {maxL : Nat} {ret : Option FieldType}
    (hown : s.vm.findClass own = some m.cls) (hlink : (Cond.methodLink own index y).before args s = true) (hinst : (Cond.instanceMethod y).before args s = true) (hsel : (Cond.selects C y y).before args s = true)
    (hcode : (Cond.code y bytes maxL ret).before args s = true) (hy : y.cls ≠ "java/lang/invoke/MethodHandle" ∧ y.cls ≠ "java/lang/invoke/VarHandle")
    {W9 : Nat} {Pre : Pt → Array Value → Prop} {Post : Pt → Array Value → Option Value → Pt → Prop} {PostX : Pt → Array Value → Addr → Pt → Prop} (hK : vx_Back l R p e below s args y 3 W9 Pre Post PostX)
    {b : Addr} {cellB : Cell} (hcell : T.heap[b]? = some cellB) (hobj : cellB.vm.isStatics = false) (hcls : s.vm.findClass C = some cellB.cls)
    {g : JFrame} (hg : g.method = m) (hsize : g.locals.size = c.maxLocals) {argsL rest : List Value} (hlen : ∀ sig, parseMethodDescriptor y.desc = some sig → argsL.length = sig.parameters.length)
    (hstack : g.stack = argsL.reverse ++ .ref b :: rest) (hW : 2 * g.monitorRoom + (rest.map fun v => v.category).sum ≤ W9) (hdg : decode c.code g.pc = .ok (.invokevirtual index, 3))
    (hpre : ∀ vm₁, s.WarmedH vm₁ → Pre ⟨T.setVm vm₁, locs, cells, slots⟩ (Value.ref b :: argsL).toArray) :
    (∃ (v : Option Value) (vm₁ : Vm) (B : Pt), s.WarmedH vm₁ ∧ Stand p l e R s m args below meth c B.U B.locs B.cells B.slots ∧ Post ⟨T.setVm vm₁, locs, cells, slots⟩ (Value.ref b :: argsL).toArray v B ∧
      ∀ target, Steps p.tables e below (B.U.setTop { g with pc := g.pc + 3, stack := v.toList ++ rest }) target → Steps p.tables e below (T.setTop g) target) ∨
    (∃ (q : Addr) (vm₁ : Vm) (B : Pt), s.WarmedH vm₁ ∧ Stand p l e R s m args below meth c B.U B.locs B.cells B.slots ∧ PostX ⟨T.setVm vm₁, locs, cells, slots⟩ (Value.ref b :: argsL).toArray q B ∧
      Steps p.tables e below (T.setTop g) ((B.U.setTop { g with stack := rest }).pushFrame (.throwing q))) := by
  obtain ⟨mk, methM, hnamed, hmethM, hstM, habM⟩ := Cond.instanceMethod_spec hinst
  obtain ⟨methM', cM, hmethM', -, -, -, -, -, -, hsigM⟩ := Cond.code_spec hnamed hcode
  cases hmethM.symm.trans hmethM'
  obtain ⟨c2, r2, m2, q1, q2, q3, q4, kP, hkP, hkPi⟩ := Cond.selects_spec hsel
  cases hcls.symm.trans q1
  cases (State.methodFound?_of_named hnamed hy).symm.trans q2
  cases hnamed.symm.trans q3
  have hselP : selectMethod e.platform s.vm cellB.cls mk = .method mk := by rw [Launch.admits_selectMethod X.admits]; exact q4
  obtain ⟨vm₁, X₁, hstep₁⟩ := X.invokevirtual hexec hown hlink hnamed hmethM hstM hkP hkPi hy (a := b) (cell := cellB) hcell
    (fun z h => by rw [h] at hobj; cases hobj) hselP hmethM habM hkP hkPi (g := g) hg (argsL := argsL) (rest := rest) (hlen _ hsigM) hstack hdg
  rcases hK m meth c ⟨T.setVm vm₁, locs, cells, slots⟩ { g with stack := rest } (.invokevirtual index) mk (Value.ref b :: argsL).toArray X₁ hg hsize hdg hW (X₁.named hnamed) (hpre vm₁ X₁.warmed) with ⟨v, B, X', hpost, hsteps⟩ | ⟨q, B, X', hpost, hsteps⟩
  · exact Or.inl ⟨v, vm₁, B, X₁.warmed, X', hpost, fun target h => hstep₁ _ fun acts => by rw [doInvoke_state]; exact hsteps.trans h⟩
  · exact Or.inr ⟨q, vm₁, B, X₁.warmed, X', hpost, hstep₁ _ fun acts => by rw [doInvoke_state]; exact hsteps⟩
theorem vx_callS (X : Stand p l e R s m args below meth c T locs cells slots) (hexec : p.tables.exec = Jvm.exec) {own : String} {index : Nat} {y : MethodName} {bytes : ByteArray} {maxL : Nat} {ret : Option FieldType}
    (hown : s.vm.findClass own = some m.cls) (hlink : (Cond.methodLink own index y).before args s = true) (hstat : (Cond.static y).before args s = true) (hinit : (Cond.initialized y.cls).before args s = true)
    (hcode : (Cond.code y bytes maxL ret).before args s = true) (hy : y.cls ≠ "java/lang/invoke/MethodHandle" ∧ y.cls ≠ "java/lang/invoke/VarHandle")
    {W9 : Nat} {Pre : Pt → Array Value → Prop} {Post : Pt → Array Value → Option Value → Pt → Prop} {PostX : Pt → Array Value → Addr → Pt → Prop} (hK : vx_Back l R p e below s args y 3 W9 Pre Post PostX)
    {g : JFrame} (hg : g.method = m) (hsize : g.locals.size = c.maxLocals) {argsL rest : List Value} (hlen : ∀ sig, parseMethodDescriptor y.desc = some sig → argsL.length = sig.parameters.length)
    (hstack : g.stack = argsL.reverse ++ rest) (hW : 2 * g.monitorRoom + (rest.map fun v => v.category).sum ≤ W9) (hdg : decode c.code g.pc = .ok (.invokestatic index, 3))
    (hpre : ∀ vm₁, s.WarmedH vm₁ → Pre ⟨T.setVm vm₁, locs, cells, slots⟩ argsL.toArray) :
    (∃ (v : Option Value) (vm₁ : Vm) (B : Pt), s.WarmedH vm₁ ∧ Stand p l e R s m args below meth c B.U B.locs B.cells B.slots ∧ Post ⟨T.setVm vm₁, locs, cells, slots⟩ argsL.toArray v B ∧
      ∀ target, Steps p.tables e below (B.U.setTop { g with pc := g.pc + 3, stack := v.toList ++ rest }) target → Steps p.tables e below (T.setTop g) target) ∨
    (∃ (q : Addr) (vm₁ : Vm) (B : Pt), s.WarmedH vm₁ ∧ Stand p l e R s m args below meth c B.U B.locs B.cells B.slots ∧ PostX ⟨T.setVm vm₁, locs, cells, slots⟩ argsL.toArray q B ∧
      Steps p.tables e below (T.setTop g) ((B.U.setTop { g with stack := rest }).pushFrame (.throwing q))) := by
  obtain ⟨mk, hnamed⟩ := Cond.code_named hcode
  obtain ⟨methM, cM, hmethM, -, -, -, -, -, -, hsigM⟩ := Cond.code_spec hnamed hcode
  have hstatic : methM.isStatic = true := Cond.static_spec hnamed hmethM hstat
  obtain ⟨kP, hkP, -⟩ := className_of_methodNamed hnamed
  have hinitP : kP.init = .initialized := Cond.initialized_spec (findClass_of_methodNamed hnamed) hkP hinit
  obtain ⟨vm₁, X₁, hstep₁⟩ := X.invokestatic hexec hown hlink hnamed hmethM hstatic hkP hinitP hy (g := g) hg (argsL := argsL) (rest := rest) (hlen _ hsigM) hstack hdg
  rcases hK m meth c ⟨T.setVm vm₁, locs, cells, slots⟩ { g with stack := rest } (.invokestatic index) mk argsL.toArray X₁ hg hsize hdg hW (X₁.named hnamed) (hpre vm₁ X₁.warmed) with ⟨v, B, X', hpost, hsteps⟩ | ⟨q, B, X', hpost, hsteps⟩
  · exact Or.inl ⟨v, vm₁, B, X₁.warmed, X', hpost, fun target h => hstep₁ _ fun acts => by rw [doInvoke_state]; exact hsteps.trans h⟩
  · exact Or.inr ⟨q, vm₁, B, X₁.warmed, X', hpost, hstep₁ _ fun acts => by rw [doInvoke_state]; exact hsteps⟩
end Calls
theorem vx_cls {s : State} {T : State} {vm₁ : Vm} {E : String} {k : ClassId} (hW : s.WarmedH vm₁) (h : (T.setVm vm₁).vm.findClass E = some k) : s.vm.findClass E = some k := by
  have h1 : vm₁.findClass E = some k := h
  rw [hW.alike.findClass] at h1
  exact h1
/-- the method's frame g, with q thrown over it -/
def vx_W (p : Program) (l : Launch) (e : Env) (R : Room) (s : State) (m : MethodId) (args : Array Value) (below : List Frame) (meth : Method) (c : Code) (H : Heap) (locs : List Loc) (cells slots : Nat) (Q : State → Prop) (g : JFrame) (q : Addr) : Prop :=
  ∀ T : State, T.heap = H → Stand p l e R s m args below meth c T locs cells slots → ∃ t, Steps p.tables e below ((T.setTop g).pushFrame (.throwing q)) t ∧ Q t
def vx_Run (p : Program) (l : Launch) (e : Env) (R : Room) (s : State) (m : MethodId) (args : Array Value) (below : List Frame) (meth : Method) (c : Code) (H : Heap) (locs : List Loc) (cells slots mc ms : Nat) (g : JFrame) (rest : List Value) (Qa : State → Outcome → State → Prop) (XC : String → State → State → Prop) (free : Addr → Prop) : Prop :=
  ∀ T : State, T.heap = H → Stand p l e R s m args below meth c T locs cells slots →
    (∃ (v : Option Value) (st₀ t T' : State) (L : List Loc), st₀.heap = H ∧ Stand p l e R s m args below meth c T' (locs ++ L) (cells + mc) (slots + ms) ∧ (∀ q ∈ L, free q.base) ∧ T'.heap = t.heap ∧ T'.vm = t.vm ∧ Qa st₀ (.returned v) t ∧
      Goes p e below T g T' { g with pc := g.pc + 3, stack := v.toList ++ rest }) ∨
    (∃ (q : Addr) (st₀ t T' : State) (L : List Loc) (E : String) (ce : Cell), st₀.heap = H ∧ Stand p l e R s m args below meth c T' (locs ++ L) (cells + mc) (slots + ms) ∧ (∀ z ∈ L, free z.base) ∧ T'.heap = t.heap ∧ T'.vm = t.vm ∧ XC E st₀ t ∧ t.heap[q]? = some ce ∧ ce.vm = .none ∧ s.vm.findClass E = some ce.cls ∧
      Steps p.tables e below (T.setTop g) ((T'.setTop { g with stack := rest }).pushFrame (.throwing q)))
def vx_X {S : Type} (px : S → Prop) (B : String → S → State → Prop) (A : Nat → Prop) : String → State → State → Prop := fun E st t => ∃ u : S, px u ∧ B E u t ∧ va_F A st t
section Runs
variable {p : Program} {l : Launch} {e : Env} {R : Room} {s : State} {m : MethodId} {args : Array Value} {below : List Frame} {meth : Method} {c : Code} {H : Heap} {locs : List Loc} {cells slots : Nat}
variable {y : MethodName} {bytes cc : ByteArray} {maxL nL mc ms n index : Nat} {ret : Option FieldType} {ws : List Cond} {rm : Room} {Pc : Array Value → State → Prop} {Qc : Array Value → State → Outcome → State → Prop} {XC : String → State → State → Prop} {free : Addr → Prop} {Ts : List Cond} {own C : String} {b : Addr} {As rest : List Value} {g : JFrame}
theorem vx_callBack (cb : CallB R s args own index y bytes maxL ret ws rm mc ms n) (hM : vx_Met l y ws rm Pc Qc XC mc ms free) (hbl : FrameBlind Pc) : vx_Back l R p e below s args y 3 8 (PreOf R mc ms Pc) (PostOf Qc mc ms free) (vx_Post XC mc ms free) := by
  obtain ⟨hrc, hrs, hfr, hlo, hws, hcw, -, hini, -⟩ := cb
  exact vx_back (bytes := bytes) (maxL := maxL) (ret := ret) hM hbl hrc hrs hfr hlo hws hcw (fun a' U hW => word_at hW (Or.inl (by first | rfl | simp [Cond.onTables, Cond.keeps, Cond.steady])) hini)
theorem vx_runV (S : CallFix p m c cc nL s args Ts own) (hM : vx_Met l y ws rm Pc Qc XC mc ms free) (cw : CallW R s args own C index y bytes maxL ret ws rm mc ms n) (hp : PreV s H C b Pc As)
    (hg : g.method = m) (hn : As.length = n) (hsize : g.locals.size = nL) (hstack : g.stack = As.reverse ++ .ref b :: rest) (hW : 2 * g.monitorRoom + (rest.map fun v => v.category).sum ≤ 8) (hdg : decode cc g.pc = .ok (.invokevirtual index, 3)) (hf : cells + mc ≤ R.cells ∧ slots + ms ≤ R.slots) :
    vx_Run p l e R s m args below meth c H locs cells slots mc ms g rest (Qc (Value.ref b :: As).toArray) XC free := by
  have hK : vx_Back l R p e below s args y 3 8 (PreOf R mc ms Pc) (PostOf Qc mc ms free) (vx_Post XC mc ms free) := vx_callBack cw.1 hM hp.1
  obtain ⟨⟨-, -, -, -, -, -, hcode, -, hy, hlen, hl⟩, hin, hse⟩ := cw
  obtain ⟨hx, hb, hml, ho, -⟩ := S
  obtain ⟨-, ⟨cellB, hcB, hoB, hclB⟩, hPc⟩ := hp
  intro T hT X
  rcases vx_callV X hx (C := C) (bytes := bytes) (maxL := maxL) (ret := ret) ho hl hin hse hcode hy hK (by rw [hT]; exact hcB) hoB hclB hg (hsize.trans hml.symm) (argsL := As) (rest := rest) (fun sig h => hn.trans (hlen sig h)) hstack hW (by rw [hb]; exact hdg)
    (fun vm₁ hW₁ => ⟨hf.1, hf.2, hPc (T.setVm vm₁) hT hW₁⟩) with ⟨v, vm₁, ⟨U', l2, c2, s2⟩, hW₁, X', ⟨g', mk, t, L, e1, e2, hq, h1, hL, h2, h3⟩, st⟩ | ⟨q, vm₁, ⟨U', l2, c2, s2⟩, hW₁, X', ⟨g', mk, t, L, E, ce, e1, e2, hq, hce, hcv, hcl, h1, hL, h2, h3⟩, st⟩
  · dsimp only [Pt.U, Pt.locs, Pt.cells, Pt.slots] at X' e1 e2 h1 h2 h3 st
    subst h1; subst h2; subst h3
    exact Or.inl ⟨v, (T.setVm vm₁).calling g' mk (Value.ref b :: As).toArray, t, U', L, hT, X', hL, e1, e2, hq, st⟩
  · dsimp only [Pt.U, Pt.locs, Pt.cells, Pt.slots] at X' e1 e2 h1 h2 h3 st hcl
    subst h1; subst h2; subst h3
    exact Or.inr ⟨q, (T.setVm vm₁).calling g' mk (Value.ref b :: As).toArray, t, U', L, E, ce, hT, X', hL, e1, e2, hq, hce, hcv, vx_cls hW₁ hcl, st⟩
theorem vx_runS (S : CallFix p m c cc nL s args Ts own) (hM : vx_Met l y ws rm Pc Qc XC mc ms free) (cw : CallB R s args own index y bytes maxL ret ws rm mc ms n ∧ (Cond.static y).before args s = true) (hp : PreS s H Pc As)
    (hg : g.method = m) (hn : As.length = n) (hsize : g.locals.size = nL) (hstack : g.stack = As.reverse ++ rest) (hW : 2 * g.monitorRoom + (rest.map fun v => v.category).sum ≤ 8) (hdg : decode cc g.pc = .ok (.invokestatic index, 3)) (hf : cells + mc ≤ R.cells ∧ slots + ms ≤ R.slots) :
    vx_Run p l e R s m args below meth c H locs cells slots mc ms g rest (Qc As.toArray) XC free := by
  have hK : vx_Back l R p e below s args y 3 8 (PreOf R mc ms Pc) (PostOf Qc mc ms free) (vx_Post XC mc ms free) := vx_callBack cw.1 hM hp.1
  obtain ⟨⟨-, -, -, -, -, -, hcode, hini, hy, hlen, hl⟩, hstt⟩ := cw
  obtain ⟨hx, hb, hml, ho, -⟩ := S
  intro T hT X
  rcases vx_callS X hx (bytes := bytes) (maxL := maxL) (ret := ret) ho hl hstt hini hcode hy hK hg (hsize.trans hml.symm) (argsL := As) (rest := rest) (fun sig h => hn.trans (hlen sig h)) hstack hW (by rw [hb]; exact hdg)
    (fun vm₁ hW₁ => ⟨hf.1, hf.2, hp.2 (T.setVm vm₁) hT hW₁⟩) with ⟨v, vm₁, ⟨U', l2, c2, s2⟩, hW₁, X', ⟨g', mk, t, L, e1, e2, hq, h1, hL, h2, h3⟩, st⟩ | ⟨q, vm₁, ⟨U', l2, c2, s2⟩, hW₁, X', ⟨g', mk, t, L, E, ce, e1, e2, hq, hce, hcv, hcl, h1, hL, h2, h3⟩, st⟩
  · dsimp only [Pt.U, Pt.locs, Pt.cells, Pt.slots] at X' e1 e2 h1 h2 h3 st
    subst h1; subst h2; subst h3
    exact Or.inl ⟨v, (T.setVm vm₁).calling g' mk As.toArray, t, U', L, hT, X', hL, e1, e2, hq, st⟩
  · dsimp only [Pt.U, Pt.locs, Pt.cells, Pt.slots] at X' e1 e2 h1 h2 h3 st hcl
    subst h1; subst h2; subst h3
    exact Or.inr ⟨q, (T.setVm vm₁).calling g' mk As.toArray, t, U', L, E, ce, hT, X', hL, e1, e2, hq, hce, hcv, vx_cls hW₁ hcl, st⟩
end Runs
section Rows
variable {p : Program} {l : Launch} {e : Env} {R : Room} {s : State} {m : MethodId} {args : Array Value} {below : List Frame} {meth : Method} {c : Code} {H : Heap} {locs : List Loc} {cells slots : Nat} {Q : State → Prop}
variable {mc ms : Nat} {free : Addr → Prop} {A0 A1 : Nat → Prop} {H0 : Heap} {a : Array Value} {pc : Nat} {ls : Array Slot} {st0 rest : List Value}
theorem vx_keep {st₀ t T' : State} {L : List Loc} (h0 : st₀.heap = H) (e1 : T'.heap = t.heap) (hS : va_S A0 H0 H locs) (hA : ∀ q, q < H.size → A1 q → A0 q) (hf : ∀ q, free q → A0 q) (hL : ∀ q ∈ L, free q.base) (hF : va_F A1 st₀ t) :
    H.size ≤ T'.heap.size ∧ (∀ q : Nat, q < H.size → ¬ A1 q → T'.heap[q]? = H[q]?) ∧ va_S A0 H0 T'.heap (locs ++ L) := by
  obtain ⟨hz, hk⟩ := hF
  rw [h0] at hz hk
  exact ⟨by rw [e1]; exact hz, fun q h1 h2 => by rw [e1]; exact hk q h1 h2,
    ⟨Nat.le_trans hS.1 (by rw [e1]; exact hz), fun q h1 h2 => by rw [e1, hk q (Nat.lt_of_lt_of_le h1 hS.1) (fun z => h2 (hA q (Nat.lt_of_lt_of_le h1 hS.1) z))]; exact hS.2.1 q h1 h2, fun q hq => by
      rcases List.mem_append.mp hq with h | h
      · exact hS.2.2 q h
      · exact hf _ (hL q h)⟩⟩
theorem vx_calli {S SX : Type} {post : Int32 → S → Prop} {px : SX → Prop} {B : S → State → Prop} {BX : String → SX → State → Prop} {AX : Nat → Prop} (hr : vx_Run p l e R s m args below meth c H locs cells slots mc ms (F0 m pc ls st0) rest (va_Qi post B A1 a) (vx_X px BX AX) free) (hS : va_S A0 H0 H locs) (hA : ∀ q, q < H.size → A1 q → A0 q) (hf : ∀ q, free q → A0 q) (hAX : ∀ q, q < H.size → AX q → A0 q)
    (kx : ∀ (E : String) (ce : Cell) (q9 : Addr) (u : SX) (t : State) (H1 : Heap) (locs1 : List Loc), t.heap = H1 → s.vm.Alike t.vm → px u → BX E u t → H.size ≤ H1.size → (∀ q : Nat, q < H.size → ¬ AX q → H1[q]? = H[q]?) → va_S A0 H0 H1 locs1 → H1[q9]? = some ce → ce.vm = .none → s.vm.findClass E = some ce.cls → vx_W p l e R s m args below meth c H1 locs1 (cells + mc) (slots + ms) Q (F0 m pc ls rest) q9)
    (kk : ∀ (r : Int32) (u : S) (t : State) (H1 : Heap) (locs1 : List Loc), t.heap = H1 → s.vm.Alike t.vm → post r u → B u t → H.size ≤ H1.size → (∀ q : Nat, q < H.size → ¬ A1 q → H1[q]? = H[q]?) → va_S A0 H0 H1 locs1 → W p l e R s m args below meth c H1 locs1 (cells + mc) (slots + ms) Q (F0 m (pc + 3) ls (.int r :: rest))) : W p l e R s m args below meth c H locs cells slots Q (F0 m pc ls st0) := by
  intro T hT X
  rcases hr T hT X with ⟨v, st₀, t, T', L, h0, X', hL, e1, e2, ⟨⟨r, u, hv, hp, hb⟩, hF⟩, st⟩ | ⟨q, st₀, t, T', L, E, ce, h0, X', hL, e1, e2, ⟨u, hp, hb, hF⟩, hce, hcv, hcl, st⟩
  · cases hv
    obtain ⟨k1, k2, k3⟩ := vx_keep h0 e1 hS hA hf hL hF
    obtain ⟨t2, a1, b1⟩ := kk r u t T'.heap (locs ++ L) e1.symm (by rw [← e2]; exact X'.warmed.alike) hp hb k1 k2 k3 T' rfl X'
    exact ⟨t2, st t2 a1, b1⟩
  · obtain ⟨k1, k2, k3⟩ := vx_keep h0 e1 hS hAX hf hL hF
    obtain ⟨t2, a1, b1⟩ := kx E ce q u t T'.heap (locs ++ L) e1.symm (by rw [← e2]; exact X'.warmed.alike) hp hb k1 k2 k3 (by rw [e1]; exact hce) hcv hcl T' rfl X'
    exact ⟨t2, st.trans a1, b1⟩
theorem vx_calll {S SX : Type} {post : Int64 → S → Prop} {px : SX → Prop} {B : S → State → Prop} {BX : String → SX → State → Prop} {AX : Nat → Prop} (hr : vx_Run p l e R s m args below meth c H locs cells slots mc ms (F0 m pc ls st0) rest (va_Ql post B A1 a) (vx_X px BX AX) free) (hS : va_S A0 H0 H locs) (hA : ∀ q, q < H.size → A1 q → A0 q) (hf : ∀ q, free q → A0 q) (hAX : ∀ q, q < H.size → AX q → A0 q)
    (kx : ∀ (E : String) (ce : Cell) (q9 : Addr) (u : SX) (t : State) (H1 : Heap) (locs1 : List Loc), t.heap = H1 → s.vm.Alike t.vm → px u → BX E u t → H.size ≤ H1.size → (∀ q : Nat, q < H.size → ¬ AX q → H1[q]? = H[q]?) → va_S A0 H0 H1 locs1 → H1[q9]? = some ce → ce.vm = .none → s.vm.findClass E = some ce.cls → vx_W p l e R s m args below meth c H1 locs1 (cells + mc) (slots + ms) Q (F0 m pc ls rest) q9)
    (kk : ∀ (r : Int64) (u : S) (t : State) (H1 : Heap) (locs1 : List Loc), t.heap = H1 → s.vm.Alike t.vm → post r u → B u t → H.size ≤ H1.size → (∀ q : Nat, q < H.size → ¬ A1 q → H1[q]? = H[q]?) → va_S A0 H0 H1 locs1 → W p l e R s m args below meth c H1 locs1 (cells + mc) (slots + ms) Q (F0 m (pc + 3) ls (.long r :: rest))) : W p l e R s m args below meth c H locs cells slots Q (F0 m pc ls st0) := by
  intro T hT X
  rcases hr T hT X with ⟨v, st₀, t, T', L, h0, X', hL, e1, e2, ⟨⟨r, u, hv, hp, hb⟩, hF⟩, st⟩ | ⟨q, st₀, t, T', L, E, ce, h0, X', hL, e1, e2, ⟨u, hp, hb, hF⟩, hce, hcv, hcl, st⟩
  · cases hv
    obtain ⟨k1, k2, k3⟩ := vx_keep h0 e1 hS hA hf hL hF
    obtain ⟨t2, a1, b1⟩ := kk r u t T'.heap (locs ++ L) e1.symm (by rw [← e2]; exact X'.warmed.alike) hp hb k1 k2 k3 T' rfl X'
    exact ⟨t2, st t2 a1, b1⟩
  · obtain ⟨k1, k2, k3⟩ := vx_keep h0 e1 hS hAX hf hL hF
    obtain ⟨t2, a1, b1⟩ := kx E ce q u t T'.heap (locs ++ L) e1.symm (by rw [← e2]; exact X'.warmed.alike) hp hb k1 k2 k3 (by rw [e1]; exact hce) hcv hcl T' rfl X'
    exact ⟨t2, st.trans a1, b1⟩
theorem vx_callf {S SX : Type} {post : UInt32 → S → Prop} {px : SX → Prop} {B : S → State → Prop} {BX : String → SX → State → Prop} {AX : Nat → Prop} (hr : vx_Run p l e R s m args below meth c H locs cells slots mc ms (F0 m pc ls st0) rest (va_Qf post B A1 a) (vx_X px BX AX) free) (hS : va_S A0 H0 H locs) (hA : ∀ q, q < H.size → A1 q → A0 q) (hf : ∀ q, free q → A0 q) (hAX : ∀ q, q < H.size → AX q → A0 q)
    (kx : ∀ (E : String) (ce : Cell) (q9 : Addr) (u : SX) (t : State) (H1 : Heap) (locs1 : List Loc), t.heap = H1 → s.vm.Alike t.vm → px u → BX E u t → H.size ≤ H1.size → (∀ q : Nat, q < H.size → ¬ AX q → H1[q]? = H[q]?) → va_S A0 H0 H1 locs1 → H1[q9]? = some ce → ce.vm = .none → s.vm.findClass E = some ce.cls → vx_W p l e R s m args below meth c H1 locs1 (cells + mc) (slots + ms) Q (F0 m pc ls rest) q9)
    (kk : ∀ (r : UInt32) (u : S) (t : State) (H1 : Heap) (locs1 : List Loc), t.heap = H1 → s.vm.Alike t.vm → post r u → B u t → H.size ≤ H1.size → (∀ q : Nat, q < H.size → ¬ A1 q → H1[q]? = H[q]?) → va_S A0 H0 H1 locs1 → W p l e R s m args below meth c H1 locs1 (cells + mc) (slots + ms) Q (F0 m (pc + 3) ls (.float r :: rest))) : W p l e R s m args below meth c H locs cells slots Q (F0 m pc ls st0) := by
  intro T hT X
  rcases hr T hT X with ⟨v, st₀, t, T', L, h0, X', hL, e1, e2, ⟨⟨r, u, hv, hp, hb⟩, hF⟩, st⟩ | ⟨q, st₀, t, T', L, E, ce, h0, X', hL, e1, e2, ⟨u, hp, hb, hF⟩, hce, hcv, hcl, st⟩
  · cases hv
    obtain ⟨k1, k2, k3⟩ := vx_keep h0 e1 hS hA hf hL hF
    obtain ⟨t2, a1, b1⟩ := kk r u t T'.heap (locs ++ L) e1.symm (by rw [← e2]; exact X'.warmed.alike) hp hb k1 k2 k3 T' rfl X'
    exact ⟨t2, st t2 a1, b1⟩
  · obtain ⟨k1, k2, k3⟩ := vx_keep h0 e1 hS hAX hf hL hF
    obtain ⟨t2, a1, b1⟩ := kx E ce q u t T'.heap (locs ++ L) e1.symm (by rw [← e2]; exact X'.warmed.alike) hp hb k1 k2 k3 (by rw [e1]; exact hce) hcv hcl T' rfl X'
    exact ⟨t2, st.trans a1, b1⟩
theorem vx_calld {S SX : Type} {post : UInt64 → S → Prop} {px : SX → Prop} {B : S → State → Prop} {BX : String → SX → State → Prop} {AX : Nat → Prop} (hr : vx_Run p l e R s m args below meth c H locs cells slots mc ms (F0 m pc ls st0) rest (va_Qd post B A1 a) (vx_X px BX AX) free) (hS : va_S A0 H0 H locs) (hA : ∀ q, q < H.size → A1 q → A0 q) (hf : ∀ q, free q → A0 q) (hAX : ∀ q, q < H.size → AX q → A0 q)
    (kx : ∀ (E : String) (ce : Cell) (q9 : Addr) (u : SX) (t : State) (H1 : Heap) (locs1 : List Loc), t.heap = H1 → s.vm.Alike t.vm → px u → BX E u t → H.size ≤ H1.size → (∀ q : Nat, q < H.size → ¬ AX q → H1[q]? = H[q]?) → va_S A0 H0 H1 locs1 → H1[q9]? = some ce → ce.vm = .none → s.vm.findClass E = some ce.cls → vx_W p l e R s m args below meth c H1 locs1 (cells + mc) (slots + ms) Q (F0 m pc ls rest) q9)
    (kk : ∀ (r : UInt64) (u : S) (t : State) (H1 : Heap) (locs1 : List Loc), t.heap = H1 → s.vm.Alike t.vm → post r u → B u t → H.size ≤ H1.size → (∀ q : Nat, q < H.size → ¬ A1 q → H1[q]? = H[q]?) → va_S A0 H0 H1 locs1 → W p l e R s m args below meth c H1 locs1 (cells + mc) (slots + ms) Q (F0 m (pc + 3) ls (.double r :: rest))) : W p l e R s m args below meth c H locs cells slots Q (F0 m pc ls st0) := by
  intro T hT X
  rcases hr T hT X with ⟨v, st₀, t, T', L, h0, X', hL, e1, e2, ⟨⟨r, u, hv, hp, hb⟩, hF⟩, st⟩ | ⟨q, st₀, t, T', L, E, ce, h0, X', hL, e1, e2, ⟨u, hp, hb, hF⟩, hce, hcv, hcl, st⟩
  · cases hv
    obtain ⟨k1, k2, k3⟩ := vx_keep h0 e1 hS hA hf hL hF
    obtain ⟨t2, a1, b1⟩ := kk r u t T'.heap (locs ++ L) e1.symm (by rw [← e2]; exact X'.warmed.alike) hp hb k1 k2 k3 T' rfl X'
    exact ⟨t2, st t2 a1, b1⟩
  · obtain ⟨k1, k2, k3⟩ := vx_keep h0 e1 hS hAX hf hL hF
    obtain ⟨t2, a1, b1⟩ := kx E ce q u t T'.heap (locs ++ L) e1.symm (by rw [← e2]; exact X'.warmed.alike) hp hb k1 k2 k3 (by rw [e1]; exact hce) hcv hcl T' rfl X'
    exact ⟨t2, st.trans a1, b1⟩
theorem vx_callv {S SX : Type} {post : S → Prop} {px : SX → Prop} {B : S → State → Prop} {BX : String → SX → State → Prop} {AX : Nat → Prop} (hr : vx_Run p l e R s m args below meth c H locs cells slots mc ms (F0 m pc ls st0) rest (va_Qv post B A1 a) (vx_X px BX AX) free) (hS : va_S A0 H0 H locs) (hA : ∀ q, q < H.size → A1 q → A0 q) (hf : ∀ q, free q → A0 q) (hAX : ∀ q, q < H.size → AX q → A0 q)
    (kx : ∀ (E : String) (ce : Cell) (q9 : Addr) (u : SX) (t : State) (H1 : Heap) (locs1 : List Loc), t.heap = H1 → s.vm.Alike t.vm → px u → BX E u t → H.size ≤ H1.size → (∀ q : Nat, q < H.size → ¬ AX q → H1[q]? = H[q]?) → va_S A0 H0 H1 locs1 → H1[q9]? = some ce → ce.vm = .none → s.vm.findClass E = some ce.cls → vx_W p l e R s m args below meth c H1 locs1 (cells + mc) (slots + ms) Q (F0 m pc ls rest) q9)
    (kk : ∀ (u : S) (t : State) (H1 : Heap) (locs1 : List Loc), t.heap = H1 → s.vm.Alike t.vm → post u → B u t → H.size ≤ H1.size → (∀ q : Nat, q < H.size → ¬ A1 q → H1[q]? = H[q]?) → va_S A0 H0 H1 locs1 → W p l e R s m args below meth c H1 locs1 (cells + mc) (slots + ms) Q (F0 m (pc + 3) ls (rest))) : W p l e R s m args below meth c H locs cells slots Q (F0 m pc ls st0) := by
  intro T hT X
  rcases hr T hT X with ⟨v, st₀, t, T', L, h0, X', hL, e1, e2, ⟨⟨u, hv, hp, hb⟩, hF⟩, st⟩ | ⟨q, st₀, t, T', L, E, ce, h0, X', hL, e1, e2, ⟨u, hp, hb, hF⟩, hce, hcv, hcl, st⟩
  · cases hv
    obtain ⟨k1, k2, k3⟩ := vx_keep h0 e1 hS hA hf hL hF
    obtain ⟨t2, a1, b1⟩ := kk u t T'.heap (locs ++ L) e1.symm (by rw [← e2]; exact X'.warmed.alike) hp hb k1 k2 k3 T' rfl X'
    exact ⟨t2, st t2 a1, b1⟩
  · obtain ⟨k1, k2, k3⟩ := vx_keep h0 e1 hS hAX hf hL hF
    obtain ⟨t2, a1, b1⟩ := kx E ce q u t T'.heap (locs ++ L) e1.symm (by rw [← e2]; exact X'.warmed.alike) hp hb k1 k2 k3 (by rw [e1]; exact hce) hcv hcl T' rfl X'
    exact ⟨t2, st.trans a1, b1⟩
/-- caught by the row x of this method's table; the rows ahead don't take it -/
theorem vx_catch {own name : String} {E : String} {ce : Cell} {q : Addr} (hown : s.vm.findClass own = some m.cls) (pre : List ExceptionTableEntry) (x : ExceptionTableEntry) (suf : List ExceptionTableEntry) (hsplit : c.exceptionTable.toList = pre ++ x :: suf)
    (hpass : ∀ z ∈ pre, covers z pc = false ∨ (z.catchType ≠ 0 ∧ ∃ nm : String, (Cond.classLink own z.catchType nm).before args s = true ∧ va_Nc E nm s)) (hx : covers x pc = true) (h0 : x.catchType ≠ 0)
    (hlink : (Cond.classLink own x.catchType name).before args s = true) (hcast : (Cond.castable E name).before args s = true) (hcell : H[q]? = some ce) (hv : ce.vm = .none) (hcl : s.vm.findClass E = some ce.cls)
    (kk : W p l e R s m args below meth c H locs cells slots Q (F0 m x.handlerPc ls [.ref q])) : vx_W p l e R s m args below meth c H locs cells slots Q (F0 m pc ls rest) q := by
  intro T hT X
  have hpl : e.platform.magicAccessors = ({} : Platform).magicAccessors := by rw [X.admits.platform]
  obtain ⟨c3, c4, hc3, hc4, hasg⟩ := Cond.castable_spec hcast
  cases Option.some.inj (hc3.symm.trans hcl)
  obtain ⟨c5, hc5, hcl5⟩ := Cond.classLink_spec hown hlink e.platform hpl
  cases Option.some.inj (hc4.symm.trans hc5)
  obtain ⟨vm', X', st⟩ := X.thenCaughtThrough q (g := F0 m pc ls rest) rfl (Steps.refl _) (by rw [hT]; exact hcell) (by rw [hv]; rfl) (by obtain ⟨k9, h9, -⟩ := Vm.findClass_spec hcl; exact ⟨k9, h9⟩) pre x suf hsplit
    (fun z hz => by
      rcases hpass z hz with h | ⟨hz0, nm, hl1, hn1⟩
      · exact Or.inl h
      · obtain ⟨c6, hc6, hcl6⟩ := Cond.classLink_spec hown hl1 e.platform hpl
        obtain ⟨a8, b8, h1, h2, h3⟩ := hn1
        cases Option.some.inj (h1.symm.trans hcl)
        cases Option.some.inj (h2.symm.trans hc6)
        exact Or.inr ⟨hz0, _, hcl6, h3⟩) hx (Or.inr ⟨h0, c4, hcl5, hasg⟩)
  obtain ⟨t, a1, b1⟩ := kk (T.setVm vm') hT X'
  exact ⟨t, st.trans a1, b1⟩
end Rows
section Ends
variable {p : Program} {l : Launch} {e : Env} {R : Room} {s : State} {m : MethodId} {args : Array Value} {below : List Frame} {meth : Method} {c : Code} {H : Heap} {locs : List Loc} {cells slots : Nat} {Q : State → Prop}
variable {mc ms : Nat} {free : Addr → Prop} {A0 A1 : Nat → Prop} {H0 : Heap} {a : Array Value} {ls : Array Slot} {st0 rest : List Value}
variable {Qc : Array Value → State → Outcome → State → Prop} {XC : String → State → State → Prop}
/-- what a body that may throw owes at its end -/
def vx_MQ (below : List Frame) (Qc : Array Value → State → Outcome → State → Prop) (XC : String → State → State → Prop) (a : Array Value) (s : State) (mc ms : Nat) (free : Addr → Prop) : State → Prop := fun t =>
  ∃ o, t.status = .running ∧ Ended t below o ∧ vx_Q Qc XC mc ms free a s o t
theorem vx_ret {g : JFrame} {mc ms : Nat} (k : W p l e R s m args below meth c H locs cells slots (MQ below Qc args s mc ms free) g) : W p l e R s m args below meth c H locs cells slots (vx_MQ below Qc XC args s mc ms free) g := by
  intro T hT X
  obtain ⟨t, a1, o, b1, b2, b3, b4⟩ := k T hT X
  exact ⟨t, a1, o, b1, b2, Or.inl ⟨b3, b4⟩⟩
/-- not caught here: it goes on to the caller -/
theorem vx_widen {g : JFrame} {q : Addr} {k n : Nat} (h1 : cells ≤ k) (h2 : slots ≤ n) (kk : vx_W p l e R s m args below meth c H locs k n Q g q) : vx_W p l e R s m args below meth c H locs cells slots Q g q := fun T hT X => kk T hT (stand_widen X h1 h2)
theorem vx_out {pc : Nat} {E : String} {ce : Cell} {q : Addr} {mc ms : Nat} (hout : ∀ x ∈ c.exceptionTable.toList, covers x pc = false) (hlocks : meth.locks = false) (hcell : H[q]? = some ce) (hv : ce.vm = .none) (hcl : s.vm.findClass E = some ce.cls)
    (hx : ∀ t : State, t.heap = H → s.vm.Alike t.vm → XC E s t) (hf : ∀ z ∈ locs, free z.base) (hc : cells ≤ mc) (hs : slots ≤ ms) :
    vx_W p l e R s m args below meth c H locs cells slots (vx_MQ below Qc XC args s mc ms free) (F0 m pc ls rest) q := by
  intro T hT X
  obtain ⟨st1, hrun, hend, hW, hsm⟩ := X.leaveThrown q (g := F0 m pc ls rest) rfl rfl rfl hout hlocks
  have hcell9 : (T.setFrames (.throwing q :: below)).heap[q]? = some ce := by
    show T.heap[q]? = some ce
    rw [hT]; exact hcell
  exact ⟨_, st1, .threw q, hrun, hend, Or.inr ⟨q, rfl, E, ce, locs, hx _ hT hW.alike, hcell9, hv, hcl, hW, hsm.mono hc hs, hf⟩⟩
theorem vx_frame {U : State} {k n : Nat} (h : s.sameButNew ({ U with vm := s.vm } : State) locs k n) : s.heap.size ≤ U.heap.size ∧ ∀ q : Nat, q < s.heap.size → (∀ z ∈ locs, z.base ≠ q) → U.heap[q]? = s.heap[q]? := by
  obtain ⟨-, h2, -, -, -, h6⟩ := h
  refine ⟨h2, fun q hq hz => ?_⟩
  obtain ⟨c9, e1, e2, e3, e4⟩ := h6 q _ (Array.getElem?_eq_getElem hq)
  have hs : c9.slots = (s.heap[q]).slots := Array.ext_getElem? fun i => e4 i fun hm => hz _ hm rfl
  have h9 : c9 = s.heap[q] := by
    rw [hs] at e2
    exact e2
  have e5 : U.heap[q]? = some c9 := e1
  rw [e5, h9, Array.getElem?_eq_getElem hq]
/-- the words of a throw but the four that speak of the heap -/
def vx_no (w : Cond) : Bool := decide (w ≠ .isRef (.static Bundle.tN "UNASSIGNED_STACK" Bundle.steD)) && decide (w ≠ .isRef (.static Bundle.tN "SUPPRESSED_SENTINEL" Bundle.listD)) && decide (w ≠ .laysStatic Bundle.tN "UNASSIGNED_STACK" Bundle.steD) && decide (w ≠ .laysStatic Bundle.tN "SUPPRESSED_SENTINEL" Bundle.listD)
def vx_at0 (own : String) (ic : Nat) (X : String) (names : List String) : List Cond := (Bundle.ownAtoms0 own ic X names).filter vx_no
def vx_atS (own : String) (ic : Nat) (X : String) (names : List String) : List Cond := (Bundle.ownAtoms own ic X names).filter vx_no
/-- a word that the tables alone decide, or a good one -/
def vx_ot (w : Cond) : Bool := w.onTables || goodWord w
theorem vx_ot_at {args a' : Array Value} {s U : State} {w : Cond} (hW : s.WarmedH U.vm) (hvm : s.vm = U.vm) (hg : vx_ot w = true) (h : w.before args s = true) : w.before a' U = true := by
  simp only [vx_ot, Bool.or_eq_true] at hg
  rcases hg with hg | hg
  · exact va_tabs hg hvm h
  · exact word_at hW (good_of_word hg) h
/-- a list's words: the good ones out of the method's own list, the others by premises of their own -/
theorem vx_hat {args : Array Value} {s : State} {L B : List Cond} (h1 : ∀ w ∈ L.filter goodWord, w.before args s = true) (h2 : ∀ w ∈ L.filter (fun w => !goodWord w), w ∈ B) (h3 : ∀ w ∈ B, w.before args s = true) : ∀ w ∈ L, w.before args s = true := by
  intro w hw
  by_cases g : goodWord w = true
  · exact h1 w (List.mem_filter.mpr ⟨hw, g⟩)
  · refine h3 w (h2 w (List.mem_filter.mpr ⟨hw, ?_⟩))
    show (!goodWord w) = true
    cases hgw : goodWord w
    · rfl
    · exact absurd hgw g
theorem vx_c {args : Array Value} {s : State} {w : Cond} {B : List Cond} (h : w.before args s = true) (t : ∀ w ∈ B, w.before args s = true) : ∀ w' ∈ w :: B, w'.before args s = true := fun w' h' => (List.mem_cons.mp h').elim (fun e => by rw [e]; exact h) (t w')
theorem vx_n {args : Array Value} {s : State} : ∀ w ∈ ([] : List Cond), w.before args s = true := fun _ h => nomatch h
theorem vx_own {args : Array Value} {s : State} {L : List Cond} (h1 : ∀ w ∈ L.filter vx_no, w.before args s = true)
    (hU : (Cond.isRef (.static Bundle.tN "UNASSIGNED_STACK" Bundle.steD)).before args s = true) (hN : (Cond.isRef (.static Bundle.tN "SUPPRESSED_SENTINEL" Bundle.listD)).before args s = true)
    (lU : (Cond.laysStatic Bundle.tN "UNASSIGNED_STACK" Bundle.steD).before args s = true) (lN : (Cond.laysStatic Bundle.tN "SUPPRESSED_SENTINEL" Bundle.listD).before args s = true) : ∀ w ∈ L, w.before args s = true := by
  intro w hw
  by_cases e1 : w = .isRef (.static Bundle.tN "UNASSIGNED_STACK" Bundle.steD)
  · rw [e1]; exact hU
  · by_cases e2 : w = .isRef (.static Bundle.tN "SUPPRESSED_SENTINEL" Bundle.listD)
    · rw [e2]; exact hN
    · by_cases e3 : w = .laysStatic Bundle.tN "UNASSIGNED_STACK" Bundle.steD
      · rw [e3]; exact lU
      · by_cases e4 : w = .laysStatic Bundle.tN "SUPPRESSED_SENTINEL" Bundle.listD
        · rw [e4]; exact lN
        · exact h1 w (List.mem_filter.mpr ⟨hw, by unfold vx_no; rw [decide_eq_true e1, decide_eq_true e2, decide_eq_true e3, decide_eq_true e4]; rfl⟩)
/-- where a static field lies, its class's statics cell in H -/
def vx_L (C n d : String) (A : Nat → Prop) (U : State) (H : Heap) : Prop := ∃ (c : ClassId) (k : Class) (i : Nat) (f : Field) (a : Nat) (cell : Cell), U.vm.findClass C = some c ∧ U.fieldFound? C n d = some (c, k, i, f) ∧ f.isStatic = true ∧ k.statics = some a ∧ H[a]? = some cell ∧ cell.vm.isStatics = true ∧ cell.cls = c ∧ f.slot < cell.slots.size ∧ k.staticTypes[f.slot]? = some f.type ∧ ¬ A a
theorem vx_L.moved {C n d : String} {A : Nat → Prop} {u U : State} {H : Heap} (hvm : u.vm.Alike U.vm) (h : vx_L C n d A u H) : vx_L C n d A U H := by
  obtain ⟨c, k, i, f, a, cell, h1, h2, h3, h4, h5, h6, h7, h8, h9, h10⟩ := h
  obtain ⟨k', hi', he⟩ := State.fieldFound?_setVm hvm h2
  exact ⟨c, k', i, f, a, cell, by rw [hvm.findClass]; exact h1, hi', h3, by rw [he]; exact h4, h5, h6, h7, h8, by rw [he]; exact h9, h10⟩
theorem vx_L.kept {C n d : String} {A : Nat → Prop} {U : State} {H H1 : Heap} (h : vx_L C n d A U H) (hq : ∀ a : Nat, a < H.size → ¬ A a → H1[a]? = H[a]?) : vx_L C n d A U H1 := by
  obtain ⟨c, k, i, f, a, cell, h1, h2, h3, h4, h5, h6, h7, h8, h9, h10⟩ := h
  exact ⟨c, k, i, f, a, cell, h1, h2, h3, h4, by rw [hq a (Array.getElem?_eq_some_iff.mp h5).1 h10]; exact h5, h6, h7, h8, h9, h10⟩
theorem vx_L.narrow {C n d : String} {A B : Nat → Prop} {U : State} {H : Heap} (h : vx_L C n d A U H) (hAB : ∀ q, B q → A q) : vx_L C n d B U H := by
  obtain ⟨c, k, i, f, a, cell, h1, h2, h3, h4, h5, h6, h7, h8, h9, h10⟩ := h
  exact ⟨c, k, i, f, a, cell, h1, h2, h3, h4, h5, h6, h7, h8, h9, fun z => h10 (hAB _ z)⟩
theorem vx_L.word {C n d : String} {A : Nat → Prop} {s : State} {args : Array Value} (h : vx_L C n d A s s.heap) : (Cond.laysStatic C n d).before args s = true := by
  obtain ⟨c, k, i, f, a, cell, h1, h2, h3, h4, h5, h6, h7, h8, h9, -⟩ := h
  show (Cond.laysStatic C n d).holds args s none s [] = true
  exact Cond.laysStatic_of h1 h2 h3 h4 h5 h6 h7 h8 h9
/-- .. and what it holds: null or some reference -/
def vx_Zq (C n d : String) (A : Nat → Prop) (U : State) (H : Heap) : Prop := va_Zq C n d A U H ∧ vx_L C n d A U H
theorem vx_Zq.moved {C n d : String} {A : Nat → Prop} {u U : State} {H : Heap} (hvm : u.vm.Alike U.vm) (h : vx_Zq C n d A u H) : vx_Zq C n d A U H := ⟨va_Zq.moved hvm h.1, vx_L.moved hvm h.2⟩
theorem vx_Zq.kept {C n d : String} {A : Nat → Prop} {U : State} {H H1 : Heap} (h : vx_Zq C n d A U H) (hq : ∀ a : Nat, a < H.size → ¬ A a → H1[a]? = H[a]?) : vx_Zq C n d A U H1 := ⟨va_Zq.kept h.1 hq, vx_L.kept h.2 hq⟩
theorem vx_Zq.narrow {C n d : String} {A B : Nat → Prop} {U : State} {H : Heap} (h : vx_Zq C n d A U H) (hAB : ∀ q, B q → A q) : vx_Zq C n d B U H := ⟨va_Zq.narrow h.1 hAB, vx_L.narrow h.2 hAB⟩
theorem vx_Zqof {args : Array Value} {s : State} {C n d : String} {A : Nat → Prop} (hl : (Cond.laysStatic C n d).before args s = true) (hini : (Cond.initialized C).before args s = true) (h : (Cond.isRef (.static C n d)).before args s = true) (hA : ∀ a : Nat, a < s.heap.size → ¬ A a) : vx_Zq C n d A s s.heap := by
  refine ⟨va_Zqof hl hini h hA, ?_⟩
  obtain ⟨c, k, i, f, a, cell, h1, h2, h3, h4, h5, h6, h7, h8, h9⟩ := Cond.laysStatic_spec hl
  exact ⟨c, k, i, f, a, cell, h1, h2, h3, h4, h5, h6, h7, h8, h9, hA a (Array.getElem?_eq_some_iff.mp h5).1⟩
theorem vx_isRef {C n d : String} {v : Value} {A : Nat → Prop} {s : State} {args : Array Value} (h : va_Z C n d v A s s.heap) (hv : v.isRef = true) : (Cond.isRef (.static C n d)).before args s = true := by
  obtain ⟨cf, kf, fi, f, a, cell, h1, h2, h3, h4, h5, h6, h7, -⟩ := h
  have he : (Term.static C n d).eval args s none [] s = some v := by
    simp [Term.eval, State.fieldNamed?, h1, h2, h4, h5, h6, h7]
  simp only [Cond.before, Cond.holds, Cond.value, he]
  cases v <;> simp_all [Value.isRef]
theorem vx_isRefq {C n d : String} {A : Nat → Prop} {s : State} {args : Array Value} (h : va_Zq C n d A s s.heap) : (Cond.isRef (.static C n d)).before args s = true := by
  rcases h with h | ⟨t, h⟩
  · exact vx_isRef h rfl
  · exact vx_isRef h rfl
/-- the same frame, seen from here: as if the method were called anew in this heap -/
theorem vx_rebase {T : State} (X : Stand p l e R s m args below meth c T locs cells slots) {R' : Room} (hf : R'.frames ≤ R.frames) (hl : R'.locals ≤ R.locals) (hc : cells + R'.cells ≤ R.cells) (hs : slots + R'.slots ≤ R.slots) :
    Stand p l e R' ((T.setVm s.vm).setFrames (.invoking m args :: below)) m args below meth c T [] 0 0 := by
  have htop : (T.setVm s.vm).topJava?.isSome := X.here.top
  have hF : ((T.setVm s.vm).setFrames (.invoking m args :: below)).frames = .invoking m args :: below := State.frames_setFrames _ (State.cur_lt_of_top htop)
  obtain ⟨g₀, hg0⟩ := Option.isSome_iff_exists.mp htop
  obtain ⟨r, hr⟩ := State.topJava?_eq_some.mp hg0
  have hl9 : e.platform.stackLimits (T.setVm s.vm).me = e.platform.stackLimits s.me := X.limits
  have hb9 : (T.setVm s.vm).me.stackBytes = s.me.stackBytes := X.bytes
  refine ⟨X.admits, X.cas, X.clock, hF, ?_, X.hears, X.method, X.code, X.here, X.tail, X.warmed, ?_, ?_, ?_⟩
  · have h := X.room
    have hU : ((T.setVm s.vm).setFrames (.invoking m args :: below)).localsInUse = s.localsInUse := by
      rw [State.localsInUse_invoking hF (meth := meth) (c := c) X.method X.code, State.localsInUse_invoking X.frames X.method X.code]
    simp only [State.hasRoom, Bool.and_eq_true, decide_eq_true_eq] at h ⊢
    obtain ⟨⟨⟨⟨h1, h2, h3, h4, h5, h6⟩, h7⟩, h8⟩, h9⟩ := h
    rw [X.frames, List.length_cons] at h2 h3
    have q1 := X.heapSize
    have q2 := X.used
    simp only [hF, hU, List.length_cons, State.stackLimits_setFrames, State.stackBytes_setFrames, hl9, hb9]
    refine ⟨⟨⟨⟨by omega, by omega, by omega, by omega, by omega, h6⟩, ?_⟩, ?_⟩, X.book⟩
    · show T.heap.size + R'.cells ≤ e.platform.maxCells
      omega
    · show T.slotsUsed + R'.slots ≤ e.platform.maxSlots
      omega
  · rw [State.stackLimits_setFrames]; rfl
  · rw [State.stackBytes_setFrames]; rfl
  · refine ⟨?_, Nat.le_refl _, Nat.le_refl _, ?_, ?_, fun a c9 h9 => ⟨c9, h9, rfl, rfl, fun _ _ => rfl⟩⟩
    · obtain ⟨t, ht, -⟩ := State.frames_cons hr
      show T.setVm s.vm = { ((T.setVm s.vm).setFrames (.invoking m args :: below)).setFrames (T.setVm s.vm).frames with heap := T.heap, slotsUsed := T.slotsUsed }
      rw [State.setFrames_setFrames, State.setFrames_self ht]
      rfl
    · show T.slotsUsed = T.slotsUsed + ((T.heap.toList.drop T.heap.size).map (·.slots.size)).sum
      rw [List.drop_eq_nil_of_le (Nat.le_of_eq Array.length_toList)]
      rfl
    · show ((T.heap.toList.drop T.heap.size).map (·.slots.size)).sum ≤ 0
      rw [List.drop_eq_nil_of_le (Nat.le_of_eq Array.length_toList)]
      exact Nat.le_refl _
/-- 'throw new E()': new; dup; invokespecial; athrow -/
theorem vx_throw0 {cc : ByteArray} {pc : Nat} (hexec : p.tables.exec = Jvm.exec) (hb : c.code = cc) (hl : l.stackTraces = false) {own cls : String} {names : List String} {ik ic mc ms : Nat} {A : Nat → Prop}
    (hown : s.vm.findClass own = some m.cls) (hcls : Bundle.fit cls = true) (hnames : ∀ n ∈ names, Bundle.fit n = true)
    (hk : (Cond.classLink own ik cls).before args s = true) (hini : (Cond.initialized cls).before args s = true) (hat : ∀ w ∈ vx_at0 own ic cls names, w.before args s = true)
    (hgood : ∀ w ∈ Cond.classLink own ik cls :: Cond.initialized cls :: vx_at0 own ic cls names, vx_ot w = true)
    (hU : vx_Zq Bundle.tN "UNASSIGNED_STACK" Bundle.steD A s s.heap) (hN : vx_Zq Bundle.tN "SUPPRESSED_SENTINEL" Bundle.listD A s s.heap) (hS : va_S A s.heap H locs) (hsize : ls.size = c.maxLocals)
    (d0 : decode cc pc = .ok (.new ik, 3)) (d3 : decode cc (pc + 3) = .ok (.dup, 1)) (d4 : decode cc (pc + 4) = .ok (.invokespecial ic, 3)) (d7 : decode cc (pc + 7) = .ok (.athrow, 1))
    (hout : ∀ x ∈ c.exceptionTable.toList, covers x (pc + 7) = false)
    (hRframes : names.length + 3 < R.frames) (hRlocals : (rest.map fun v => v.category).sum + (13 * (names.length + 1) + 42) ≤ R.locals) (hRcells : cells + 1 ≤ R.cells) (hRslots : slots + 6 ≤ R.slots) (hlocks : meth.locks = false)
    (hx : ∀ t : State, s.vm.Alike t.vm → H.size ≤ t.heap.size → (∀ q : Nat, q < H.size → t.heap[q]? = H[q]?) → XC cls s t)
    (hf : ∀ z ∈ locs, free z.base) (hc : cells + 1 ≤ mc) (hs : slots + 6 ≤ ms) :
    W p l e R s m args below meth c H locs cells slots (vx_MQ below Qc XC args s mc ms free) (F0 m pc ls rest) := by
  intro T hT X
  have htr : e.platform.stackTraces = false := (show e.platform.stackTraces = l.stackTraces by rw [X.admits.platform]).trans hl
  have Y := vx_rebase X (R' := { frames := R.frames, locals := R.locals, cells := 1, slots := 6 }) (Nat.le_refl _) (Nat.le_refl _) hRcells hRslots
  obtain ⟨s', hA⟩ : ∃ z, z = (T.setVm s.vm).setFrames (.invoking m args :: below) := ⟨_, rfl⟩
  rw [← hA] at Y
  have hvm : s'.vm = s.vm := by rw [hA]; rfl
  have hhp : s'.heap = H := by rw [hA]; exact hT
  have hW0 : s.WarmedH s'.vm := by rw [hvm]; exact State.WarmedH.refl s
  have hat' : ∀ w ∈ vx_at0 own ic cls names, w.before args s' = true := fun w hw => vx_ot_at hW0 hvm.symm (hgood w (List.mem_cons_of_mem _ (List.mem_cons_of_mem _ hw))) (hat w hw)
  have hk' : (Cond.classLink own ik cls).before args s' = true := vx_ot_at hW0 hvm.symm (hgood _ List.mem_cons_self) hk
  have hini' : (Cond.initialized cls).before args s' = true := vx_ot_at hW0 hvm.symm (hgood _ (List.mem_cons_of_mem _ List.mem_cons_self)) hini
  have hU' : vx_Zq Bundle.tN "UNASSIGNED_STACK" Bundle.steD A s' s'.heap := by rw [hhp]; exact vx_Zq.moved hW0.alike (hU.kept hS.2.1)
  have hN' : vx_Zq Bundle.tN "SUPPRESSED_SENTINEL" Bundle.listD A s' s'.heap := by rw [hhp]; exact vx_Zq.moved hW0.alike (hN.kept hS.2.1)
  have h : ∀ w ∈ Bundle.ownAtoms0 own ic cls names, w.before args s' = true := vx_own hat' (vx_isRefq hU'.1) (vx_isRefq hN'.1) hU'.2.word hN'.2.word
  have hown' : s'.vm.findClass own = some m.cls := by rw [hvm]; exact hown
  have hins : (Cond.instantiable cls 6).before args s' = true := h _ (by simp [Bundle.ownAtoms0])
  obtain ⟨vm₁, cX, kX, hfX, hkX, -, -, X₁, st1⟩ := Y.newCold hexec (own := own) (C := cls) (index := ik) (n := 6) hown' hk' hins hini'
    (g := F0 m pc ls rest) rfl (by rw [hb]; exact d0) (Nat.le_refl _) (Nat.le_refl _)
  generalize hT1 : (T.setVm vm₁).pushCell { cls := cX, slots := kX.instanceTypes.map defaultValue, vm := .none } = T1 at X₁ st1
  have hcat : (Value.ref T.heap.size).category = 1 := rfl
  have hcellA : T1.heap[T.heap.size]? = some (freshCell cX kX) := by rw [← hT1]; exact State.heap_pushCell_size _ _
  have d3' : decode c.code (pc + 3) = .ok (.dup, 1) := by rw [hb]; exact d3
  obtain ⟨U, hsteps, hrun, hend, hW, hsame, ce, hce, hO⟩ := X₁.ctorThrow0 hexec htr (own := own) (cls := cls) (names := names) (ic := ic) hown' hcls hnames h (fun x hx => nomatch hx) hfX hkX hcellA (by rw [hhp, hT]; exact Nat.le_refl _)
    (g := { method := m, pc := pc + 4, locals := ls, stack := .ref T.heap.size :: .ref T.heap.size :: rest, locked := none }) rfl hsize rfl rfl (rest := rest) rfl
    (by rw [hb]; exact d4) (by rw [hb]; exact d7) hout hRframes (by simp only [List.map_cons, List.sum_cons, hcat]; omega) hlocks
  obtain ⟨f1, f2⟩ := vx_frame hsame
  rw [hhp] at f1 f2
  have hWs : s.WarmedH U.vm := State.WarmedH.trans hW0 hW
  have hcl : s.vm.findClass cls = some ce.cls := by
    have h9 := hO.cls
    rw [hvm] at h9
    exact h9
  have hall : s.sameButNew ({ U with vm := s.vm } : State) locs mc ms := by
    subst hA
    obtain ⟨e1, e2⟩ := hsame
    rw [State.setFrames_setFrames] at e1
    have h2 : (T.setVm s.vm).sameButNew ({ U with vm := s.vm } : State) [] (0 + 1) (0 + 6) := ⟨e1, e2⟩
    have h3 := X.same.trans h2
    rw [List.append_nil] at h3
    exact h3.mono hc hs
  refine ⟨U, ?_, .threw T.heap.size, hrun, hend, Or.inr ⟨T.heap.size, rfl, cls, ce, locs, hx U hWs.alike f1 (fun q hq => f2 q hq (fun z hz => nomatch hz)), hce, hO.vm, hcl, hWs, hall, hf⟩⟩
  refine st1 _ ?_
  show Steps p.tables e below (T1.setTop { method := m, pc := pc + 3, locals := ls, stack := .ref T.heap.size :: rest, locked := none }) _
  jvm_step X₁.here [X₁.here.top, hexec, d3', Value.category]
  exact hsteps
/-- 'throw new E("text")': new; dup; ldc; invokespecial; athrow -/
theorem vx_throwS {cc : ByteArray} {pc : Nat} (hexec : p.tables.exec = Jvm.exec) (hb : c.code = cc) (hl : l.stackTraces = false) {own cls text : String} {names : List String} {ik is ic mc ms sa : Nat} {A : Nat → Prop}
    (hown : s.vm.findClass own = some m.cls) (hcls : Bundle.fit cls = true) (hnames : ∀ n ∈ names, Bundle.fit n = true)
    (hk : (Cond.classLink own ik cls).before args s = true) (hini : (Cond.initialized cls).before args s = true) (hstr : vk_R own is text sa s) (hat : ∀ w ∈ vx_atS own ic cls names, w.before args s = true)
    (hgood : ∀ w ∈ Cond.classLink own ik cls :: Cond.initialized cls :: vx_atS own ic cls names, vx_ot w = true)
    (hU : vx_Zq Bundle.tN "UNASSIGNED_STACK" Bundle.steD A s s.heap) (hN : vx_Zq Bundle.tN "SUPPRESSED_SENTINEL" Bundle.listD A s s.heap) (hS : va_S A s.heap H locs) (hsize : ls.size = c.maxLocals)
    (d0 : decode cc pc = .ok (.new ik, 3)) (d3 : decode cc (pc + 3) = .ok (.dup, 1)) (d4 : decode cc (pc + 4) = .ok (.ldc is, 2)) (d6 : decode cc (pc + 6) = .ok (.invokespecial ic, 3)) (d9 : decode cc (pc + 9) = .ok (.athrow, 1))
    (hout : ∀ x ∈ c.exceptionTable.toList, covers x (pc + 9) = false)
    (hRframes : names.length + 3 < R.frames) (hRlocals : (rest.map fun v => v.category).sum + (13 * (names.length + 1) + 43) ≤ R.locals) (hRcells : cells + 1 ≤ R.cells) (hRslots : slots + 6 ≤ R.slots) (hlocks : meth.locks = false)
    (hx : ∀ t : State, s.vm.Alike t.vm → H.size ≤ t.heap.size → (∀ q : Nat, q < H.size → t.heap[q]? = H[q]?) → XC cls s t)
    (hf : ∀ z ∈ locs, free z.base) (hc : cells + 1 ≤ mc) (hs : slots + 6 ≤ ms) :
    W p l e R s m args below meth c H locs cells slots (vx_MQ below Qc XC args s mc ms free) (F0 m pc ls rest) := by
  intro T hT X
  have htr : e.platform.stackTraces = false := (show e.platform.stackTraces = l.stackTraces by rw [X.admits.platform]).trans hl
  have Y := vx_rebase X (R' := { frames := R.frames, locals := R.locals, cells := 1, slots := 6 }) (Nat.le_refl _) (Nat.le_refl _) hRcells hRslots
  obtain ⟨s', hA⟩ : ∃ z, z = (T.setVm s.vm).setFrames (.invoking m args :: below) := ⟨_, rfl⟩
  rw [← hA] at Y
  have hvm : s'.vm = s.vm := by rw [hA]; rfl
  have hhp : s'.heap = H := by rw [hA]; exact hT
  have hW0 : s.WarmedH s'.vm := by rw [hvm]; exact State.WarmedH.refl s
  have hat' : ∀ w ∈ vx_atS own ic cls names, w.before args s' = true := fun w hw => vx_ot_at hW0 hvm.symm (hgood w (List.mem_cons_of_mem _ (List.mem_cons_of_mem _ hw))) (hat w hw)
  have hk' : (Cond.classLink own ik cls).before args s' = true := vx_ot_at hW0 hvm.symm (hgood _ List.mem_cons_self) hk
  have hini' : (Cond.initialized cls).before args s' = true := vx_ot_at hW0 hvm.symm (hgood _ (List.mem_cons_of_mem _ List.mem_cons_self)) hini
  have hU' : vx_Zq Bundle.tN "UNASSIGNED_STACK" Bundle.steD A s' s'.heap := by rw [hhp]; exact vx_Zq.moved hW0.alike (hU.kept hS.2.1)
  have hN' : vx_Zq Bundle.tN "SUPPRESSED_SENTINEL" Bundle.listD A s' s'.heap := by rw [hhp]; exact vx_Zq.moved hW0.alike (hN.kept hS.2.1)
  have h : ∀ w ∈ Bundle.ownAtoms own ic cls names, w.before args s' = true := vx_own hat' (vx_isRefq hU'.1) (vx_isRefq hN'.1) hU'.2.word hN'.2.word
  have hown' : s'.vm.findClass own = some m.cls := by rw [hvm]; exact hown
  have hins : (Cond.instantiable cls 6).before args s' = true := h _ (by simp [Bundle.ownAtoms])
  obtain ⟨vm₁, cX, kX, hfX, hkX, -, -, X₁, st1⟩ := Y.newCold hexec (own := own) (C := cls) (index := ik) (n := 6) hown' hk' hins hini'
    (g := F0 m pc ls rest) rfl (by rw [hb]; exact d0) (Nat.le_refl _) (Nat.le_refl _)
  generalize hT1 : (T.setVm vm₁).pushCell { cls := cX, slots := kX.instanceTypes.map defaultValue, vm := .none } = T1 at X₁ st1
  have hcat : (Value.ref T.heap.size).category = 1 := rfl
  have hcellA : T1.heap[T.heap.size]? = some (freshCell cX kX) := by rw [← hT1]; exact State.heap_pushCell_size _ _
  have d3' : decode c.code (pc + 3) = .ok (.dup, 1) := by rw [hb]; exact d3
  have d4' : decode c.code (pc + 4) = .ok (.ldc is, 2) := by rw [hb]; exact d4
  have hstr' : vk_R own is text sa s' := vk_R.warm hW0 hstr
  obtain ⟨U, hsteps, hrun, hend, hW, hsame, ce, hce, hO⟩ := X₁.ctorThrowS hexec htr (own := own) (cls := cls) (names := names) (ic := ic) hown' hcls hnames h (fun x hx => nomatch hx) hfX hkX hcellA (by rw [hhp, hT]; exact Nat.le_refl _) (msg := .ref sa) rfl
    (g := { method := m, pc := pc + 6, locals := ls, stack := .ref sa :: .ref T.heap.size :: .ref T.heap.size :: rest, locked := none }) rfl hsize rfl rfl (rest := rest) rfl
    (by rw [hb]; exact d6) (by rw [hb]; exact d9) hout hRframes (by simp only [List.map_cons, List.sum_cons, hcat]; omega) hlocks
  obtain ⟨f1, f2⟩ := vx_frame hsame
  rw [hhp] at f1 f2
  have hWs : s.WarmedH U.vm := State.WarmedH.trans hW0 hW
  have hcl : s.vm.findClass cls = some ce.cls := by
    have h9 := hO.cls
    rw [hvm] at h9
    exact h9
  have hall : s.sameButNew ({ U with vm := s.vm } : State) locs mc ms := by
    subst hA
    obtain ⟨e1, e2⟩ := hsame
    rw [State.setFrames_setFrames] at e1
    have h2 : (T.setVm s.vm).sameButNew ({ U with vm := s.vm } : State) [] (0 + 1) (0 + 6) := ⟨e1, e2⟩
    have h3 := X.same.trans h2
    rw [List.append_nil] at h3
    exact h3.mono hc hs
  refine ⟨U, ?_, .threw T.heap.size, hrun, hend, Or.inr ⟨T.heap.size, rfl, cls, ce, locs, hx U hWs.alike f1 (fun q hq => f2 q hq (fun z hz => nomatch hz)), hce, hO.vm, hcl, hWs, hall, hf⟩⟩
  refine st1 _ ?_
  show Steps p.tables e below (T1.setTop { method := m, pc := pc + 3, locals := ls, stack := .ref T.heap.size :: rest, locked := none }) _
  jvm_step X₁.here [X₁.here.top, hexec, d3', Value.category]
  exact X₁.ldcString hexec (own := own) (text := text) (index := is) (a := sa) hown' hstr'.1 hstr'.2
    (g := { method := m, pc := pc + 4, locals := ls, stack := .ref T.heap.size :: .ref T.heap.size :: rest, locked := none }) rfl d4' _ hsteps
/-- 'throw new E("text")', the text by a wide index -/
theorem vx_throwSW {cc : ByteArray} {pc : Nat} (hexec : p.tables.exec = Jvm.exec) (hb : c.code = cc) (hl : l.stackTraces = false) {own cls text : String} {names : List String} {ik is ic mc ms sa : Nat} {A : Nat → Prop}
    (hown : s.vm.findClass own = some m.cls) (hcls : Bundle.fit cls = true) (hnames : ∀ n ∈ names, Bundle.fit n = true)
    (hk : (Cond.classLink own ik cls).before args s = true) (hini : (Cond.initialized cls).before args s = true) (hstr : vk_R own is text sa s) (hat : ∀ w ∈ vx_atS own ic cls names, w.before args s = true)
    (hgood : ∀ w ∈ Cond.classLink own ik cls :: Cond.initialized cls :: vx_atS own ic cls names, vx_ot w = true)
    (hU : vx_Zq Bundle.tN "UNASSIGNED_STACK" Bundle.steD A s s.heap) (hN : vx_Zq Bundle.tN "SUPPRESSED_SENTINEL" Bundle.listD A s s.heap) (hS : va_S A s.heap H locs) (hsize : ls.size = c.maxLocals)
    (d0 : decode cc pc = .ok (.new ik, 3)) (d3 : decode cc (pc + 3) = .ok (.dup, 1)) (d4 : decode cc (pc + 4) = .ok (.ldc_w is, 3)) (d7 : decode cc (pc + 7) = .ok (.invokespecial ic, 3)) (d10 : decode cc (pc + 10) = .ok (.athrow, 1))
    (hout : ∀ x ∈ c.exceptionTable.toList, covers x (pc + 10) = false)
    (hRframes : names.length + 3 < R.frames) (hRlocals : (rest.map fun v => v.category).sum + (13 * (names.length + 1) + 43) ≤ R.locals) (hRcells : cells + 1 ≤ R.cells) (hRslots : slots + 6 ≤ R.slots) (hlocks : meth.locks = false)
    (hx : ∀ t : State, s.vm.Alike t.vm → H.size ≤ t.heap.size → (∀ q : Nat, q < H.size → t.heap[q]? = H[q]?) → XC cls s t)
    (hf : ∀ z ∈ locs, free z.base) (hc : cells + 1 ≤ mc) (hs : slots + 6 ≤ ms) :
    W p l e R s m args below meth c H locs cells slots (vx_MQ below Qc XC args s mc ms free) (F0 m pc ls rest) := by
  intro T hT X
  have htr : e.platform.stackTraces = false := (show e.platform.stackTraces = l.stackTraces by rw [X.admits.platform]).trans hl
  have Y := vx_rebase X (R' := { frames := R.frames, locals := R.locals, cells := 1, slots := 6 }) (Nat.le_refl _) (Nat.le_refl _) hRcells hRslots
  obtain ⟨s', hA⟩ : ∃ z, z = (T.setVm s.vm).setFrames (.invoking m args :: below) := ⟨_, rfl⟩
  rw [← hA] at Y
  have hvm : s'.vm = s.vm := by rw [hA]; rfl
  have hhp : s'.heap = H := by rw [hA]; exact hT
  have hW0 : s.WarmedH s'.vm := by rw [hvm]; exact State.WarmedH.refl s
  have hat' : ∀ w ∈ vx_atS own ic cls names, w.before args s' = true := fun w hw => vx_ot_at hW0 hvm.symm (hgood w (List.mem_cons_of_mem _ (List.mem_cons_of_mem _ hw))) (hat w hw)
  have hk' : (Cond.classLink own ik cls).before args s' = true := vx_ot_at hW0 hvm.symm (hgood _ List.mem_cons_self) hk
  have hini' : (Cond.initialized cls).before args s' = true := vx_ot_at hW0 hvm.symm (hgood _ (List.mem_cons_of_mem _ List.mem_cons_self)) hini
  have hU' : vx_Zq Bundle.tN "UNASSIGNED_STACK" Bundle.steD A s' s'.heap := by rw [hhp]; exact vx_Zq.moved hW0.alike (hU.kept hS.2.1)
  have hN' : vx_Zq Bundle.tN "SUPPRESSED_SENTINEL" Bundle.listD A s' s'.heap := by rw [hhp]; exact vx_Zq.moved hW0.alike (hN.kept hS.2.1)
  have h : ∀ w ∈ Bundle.ownAtoms own ic cls names, w.before args s' = true := vx_own hat' (vx_isRefq hU'.1) (vx_isRefq hN'.1) hU'.2.word hN'.2.word
  have hown' : s'.vm.findClass own = some m.cls := by rw [hvm]; exact hown
  have hins : (Cond.instantiable cls 6).before args s' = true := h _ (by simp [Bundle.ownAtoms])
  obtain ⟨vm₁, cX, kX, hfX, hkX, -, -, X₁, st1⟩ := Y.newCold hexec (own := own) (C := cls) (index := ik) (n := 6) hown' hk' hins hini'
    (g := F0 m pc ls rest) rfl (by rw [hb]; exact d0) (Nat.le_refl _) (Nat.le_refl _)
  generalize hT1 : (T.setVm vm₁).pushCell { cls := cX, slots := kX.instanceTypes.map defaultValue, vm := .none } = T1 at X₁ st1
  have hcat : (Value.ref T.heap.size).category = 1 := rfl
  have hcellA : T1.heap[T.heap.size]? = some (freshCell cX kX) := by rw [← hT1]; exact State.heap_pushCell_size _ _
  have d3' : decode c.code (pc + 3) = .ok (.dup, 1) := by rw [hb]; exact d3
  have d4' : decode c.code (pc + 4) = .ok (.ldc_w is, 3) := by rw [hb]; exact d4
  have hstr' : vk_R own is text sa s' := vk_R.warm hW0 hstr
  obtain ⟨U, hsteps, hrun, hend, hW, hsame, ce, hce, hO⟩ := X₁.ctorThrowS hexec htr (own := own) (cls := cls) (names := names) (ic := ic) hown' hcls hnames h (fun x hx => nomatch hx) hfX hkX hcellA (by rw [hhp, hT]; exact Nat.le_refl _) (msg := .ref sa) rfl
    (g := { method := m, pc := pc + 7, locals := ls, stack := .ref sa :: .ref T.heap.size :: .ref T.heap.size :: rest, locked := none }) rfl hsize rfl rfl (rest := rest) rfl
    (by rw [hb]; exact d7) (by rw [hb]; exact d10) hout hRframes (by simp only [List.map_cons, List.sum_cons, hcat]; omega) hlocks
  obtain ⟨f1, f2⟩ := vx_frame hsame
  rw [hhp] at f1 f2
  have hWs : s.WarmedH U.vm := State.WarmedH.trans hW0 hW
  have hcl : s.vm.findClass cls = some ce.cls := by
    have h9 := hO.cls
    rw [hvm] at h9
    exact h9
  have hall : s.sameButNew ({ U with vm := s.vm } : State) locs mc ms := by
    subst hA
    obtain ⟨e1, e2⟩ := hsame
    rw [State.setFrames_setFrames] at e1
    have h2 : (T.setVm s.vm).sameButNew ({ U with vm := s.vm } : State) [] (0 + 1) (0 + 6) := ⟨e1, e2⟩
    have h3 := X.same.trans h2
    rw [List.append_nil] at h3
    exact h3.mono hc hs
  refine ⟨U, ?_, .threw T.heap.size, hrun, hend, Or.inr ⟨T.heap.size, rfl, cls, ce, locs, hx U hWs.alike f1 (fun q hq => f2 q hq (fun z hz => nomatch hz)), hce, hO.vm, hcl, hWs, hall, hf⟩⟩
  refine st1 _ ?_
  show Steps p.tables e below (T1.setTop { method := m, pc := pc + 3, locals := ls, stack := .ref T.heap.size :: rest, locked := none }) _
  jvm_step X₁.here [X₁.here.top, hexec, d3', Value.category]
  exact X₁.ldcStringW hexec (own := own) (text := text) (index := is) (a := sa) hown' hstr'.1 hstr'.2
    (g := { method := m, pc := pc + 4, locals := ls, stack := .ref T.heap.size :: .ref T.heap.size :: rest, locked := none }) rfl d4' _ hsteps
end Ends
section Bodies
variable {l : Launch}
theorem vx_ofW {y : MethodName} {ws ws' : List Cond} {rm : Room} {Pc : Array Value → State → Prop} {Qc : Array Value → State → Outcome → State → Prop} {XC : String → State → State → Prop} {mc ms : Nat} {free : Addr → Prop} {cc : ByteArray} {maxL : Nat} {ret : Option FieldType}
    (hy : plainName y.cls = true) (hw : ws = Cond.code y cc maxL ret :: ws')
    (body : ∀ p e s m args below meth c s₁, BodyLoose p l y (headSpec ws rm) cc maxL ret e s m args below meth c s₁ → c.maxLocals = maxL → (∀ x ∈ c.exceptionTable.toList, False) → Pc args s →
      W p l e (headSpec ws rm).room s m args below meth c s.heap [] 0 0 (vx_MQ below Qc XC args s mc ms free) (entryFrame m args maxL)) : vx_Met l y ws rm Pc Qc XC mc ms free := by
  refine MetFree.of_bodyS (code := cc) (maxLocals := maxL) (ret := ret) hy ?_ ?_
  · intro args s m h hn
    obtain ⟨meth, c, h1, h2, h3, h4, h5, h6, -, -⟩ := Cond.code_spec hn (atoms_spec (ws := ws) h _ (by rw [hw]; exact List.mem_cons_self))
    exact ⟨meth, c, h1, h2, h3, h4, h5, h6⟩
  · intro p e s m args below meth c s₁ B hml hP _
    have hh0 : s₁.heap = s.heap := by rw [B.state]; rfl
    have ht : ∀ x ∈ c.exceptionTable.toList, False := by
      obtain ⟨meth9, c9, h1, h2, -, -, -, -, h7, -⟩ := Cond.code_spec B.named (atoms_spec (ws := ws) B.pre _ (by rw [hw]; exact List.mem_cons_self))
      cases Option.some.inj (h1.symm.trans B.method)
      cases Option.some.inj (h2.symm.trans (Stand.of_body B).code)
      intro x hx
      rw [Array.isEmpty_iff.mp h7] at hx
      cases hx
    obtain ⟨t, a1, o, b1, b2, b3⟩ := body p e s m args below meth c s₁ B hml ht hP s₁ hh0 (Stand.of_body B)
    exact ⟨t, o, a1, b1, b2, b3⟩
/-- the table of a body with handlers -/
theorem vx_table {p : Program} {x y : MethodName} {S : Spec} {cc bytes : ByteArray} {maxL maxL' : Nat} {ret ret' : Option FieldType} {e : Env} {s s₁ : State} {m : MethodId} {args : Array Value} {below : List Frame} {meth : Method} {c : Code} {hh : List (Nat × Nat × Nat × Nat)}
    (B : BodyLoose p l y S cc maxL ret e s m args below meth c s₁) (h : (Cond.codeWith y bytes maxL' ret' hh).before args s = true) : c.exceptionTable.toList = tableOf hh := by
  obtain ⟨m9, meth9, c9, hn9, h1, h2, -, -, h6, -⟩ := Cond.codeWith_spec h
  cases Option.some.inj (hn9.symm.trans B.named)
  cases Option.some.inj (h1.symm.trans B.method)
  cases Option.some.inj (h2.symm.trans (Stand.of_body B).code)
  rw [← h6, table_eq]
end Bodies
end VXA
/-! ===== END ===== -/
/-! ===== BEGIN a static call of a method with an exception table ===== -/
section VXS
variable {p : Program} {l : Launch} {e : Env} {R : Room} {s : State} {m : MethodId} {args : Array Value} {below : List Frame} {meth : Method} {c : Code} {T : State} {H : Heap} {locs : List Loc} {cells slots : Nat}
abbrev vx_CSW (R : Room) (s : State) (args : Array Value) (own : String) (index : Nat) (y : MethodName) (bytes : ByteArray) (maxL : Nat) (ret : Option FieldType) (hh : List (Nat × Nat × Nat × Nat)) (ws : List Cond) (rm : Room) (mc ms n : Nat) : Prop :=
  (rm.cells = mc ∧ rm.slots = ms ∧ rm.frames + 1 ≤ R.frames ∧ 8 + (maxL + 11) + rm.locals ≤ R.locals ∧ (∀ w ∈ ws, ∀ (a' : Array Value) (U : State), s.WarmedH U.vm → w.before a' U = true) ∧ Cond.codeWith y bytes maxL ret hh ∈ ws) ∧
  (Cond.codeWith y bytes maxL ret hh).before args s = true ∧ (Cond.initialized y.cls).before args s = true ∧ (y.cls ≠ "java/lang/invoke/MethodHandle" ∧ y.cls ≠ "java/lang/invoke/VarHandle") ∧
  (∀ sig, parseMethodDescriptor y.desc = some sig → n = sig.parameters.length) ∧ (Cond.methodLink own index y).before args s = true ∧ (Cond.static y).before args s = true
theorem vx_cwSW {own : String} {index maxL mc ms : Nat} {y : MethodName} {bytes : ByteArray} {ret : Option FieldType} {hh : List (Nat × Nat × Nat × Nat)} {Ts ws ws' : List Cond} {rm : Room} (n : Nat) (ht : ∀ w ∈ Ts, w.before args s = true) (hT : GoodIn Ts (va_wsS own index y ws)) (hw : ws = Cond.codeWith y bytes maxL ret hh :: ws') (hrc : rm.cells = mc) (hrs : rm.slots = ms)
    (hd : y.cls ≠ "java/lang/invoke/MethodHandle" ∧ y.cls ≠ "java/lang/invoke/VarHandle" ∧ (parseMethodDescriptor y.desc).map (fun d => d.parameters.length) = some n) (hR : rm.frames + 1 ≤ R.frames ∧ 8 + (maxL + 11) + rm.locals ≤ R.locals) :
    vx_CSW R s args own index y bytes maxL ret hh ws rm mc ms n := by
  have ok : ∀ w ∈ va_wsS own index y ws, w.before args s = true := fun w h => ht w (hT w h).1
  have hG : GoodIn Ts ws := fun w h => hT w (by unfold va_wsS; exact List.mem_append_right _ h)
  have hc : Cond.codeWith y bytes maxL ret hh ∈ ws := by rw [hw]; exact List.mem_cons_self
  refine ⟨⟨hrc, hrs, hR.1, hR.2, pay_in ht hG, hc⟩, ht _ (hG _ hc).1, ok _ (by simp [va_wsS]), ⟨hd.1, hd.2.1⟩, fun sig h => ?_, ok _ (by simp [va_wsS]), ok _ (by simp [va_wsS])⟩
  have h2 := hd.2.2
  rw [h] at h2
  exact (Option.some.inj h2).symm
theorem vx_callSW (X : Stand p l e R s m args below meth c T locs cells slots) (hexec : p.tables.exec = Jvm.exec) {own : String} {index : Nat} {y : MethodName} {bytes : ByteArray} {maxL : Nat} {ret : Option FieldType} {hh : List (Nat × Nat × Nat × Nat)}
    (hown : s.vm.findClass own = some m.cls) (hlink : (Cond.methodLink own index y).before args s = true) (hstat : (Cond.static y).before args s = true) (hinit : (Cond.initialized y.cls).before args s = true)
    (hcode : (Cond.codeWith y bytes maxL ret hh).before args s = true) (hy : y.cls ≠ "java/lang/invoke/MethodHandle" ∧ y.cls ≠ "java/lang/invoke/VarHandle")
    {W9 : Nat} {Pre : Pt → Array Value → Prop} {Post : Pt → Array Value → Option Value → Pt → Prop} (hK : Back l R p e below s args y 3 W9 Pre Post)
    {g : JFrame} (hg : g.method = m) (hsize : g.locals.size = c.maxLocals) {argsL rest : List Value} (hlen : ∀ sig, parseMethodDescriptor y.desc = some sig → argsL.length = sig.parameters.length)
    (hstack : g.stack = argsL.reverse ++ rest) (hW : 2 * g.monitorRoom + (rest.map fun v => v.category).sum ≤ W9) (hdg : decode c.code g.pc = .ok (.invokestatic index, 3))
    (hpre : ∀ vm₁, s.WarmedH vm₁ → Pre ⟨T.setVm vm₁, locs, cells, slots⟩ argsL.toArray) :
    ∃ (v : Option Value) (vm₁ : Vm) (B : Pt), s.WarmedH vm₁ ∧ Stand p l e R s m args below meth c B.U B.locs B.cells B.slots ∧ Post ⟨T.setVm vm₁, locs, cells, slots⟩ argsL.toArray v B ∧
      ∀ target, Steps p.tables e below (B.U.setTop { g with pc := g.pc + 3, stack := v.toList ++ rest }) target → Steps p.tables e below (T.setTop g) target := by
  obtain ⟨mk, methM, cM, hnamed, hmethM, -, -, -, -, -, -, hsigM⟩ := Cond.codeWith_spec hcode
  have hstatic : methM.isStatic = true := Cond.static_spec hnamed hmethM hstat
  obtain ⟨kP, hkP, -⟩ := className_of_methodNamed hnamed
  have hinitP : kP.init = .initialized := Cond.initialized_spec (findClass_of_methodNamed hnamed) hkP hinit
  obtain ⟨vm₁, X₁, hstep₁⟩ := X.invokestatic hexec hown hlink hnamed hmethM hstatic hkP hinitP hy (g := g) hg (argsL := argsL) (rest := rest) (hlen _ hsigM) hstack hdg
  obtain ⟨v, B, X', hpost, hsteps⟩ := hK m meth c ⟨T.setVm vm₁, locs, cells, slots⟩ { g with stack := rest } (.invokestatic index) mk argsL.toArray X₁ hg hsize hdg hW (X₁.named hnamed) (hpre vm₁ X₁.warmed)
  exact ⟨v, vm₁, B, X₁.warmed, X', hpost, fun target h => hstep₁ _ fun acts => by rw [doInvoke_state]; exact hsteps.trans h⟩
theorem vx_runSW {y : MethodName} {bytes cc : ByteArray} {maxL nL mc ms n index : Nat} {ret : Option FieldType} {hh : List (Nat × Nat × Nat × Nat)} {ws : List Cond} {rm : Room} {Pc : Array Value → State → Prop} {Qc : Array Value → State → Outcome → State → Prop} {free : Addr → Prop} {Ts : List Cond} {own : String} {As rest : List Value} {g : JFrame}
    (S : CallFix p m c cc nL s args Ts own) (hM : Met l y ws rm Pc Qc mc ms free) (cw : vx_CSW R s args own index y bytes maxL ret hh ws rm mc ms n) (hp : PreS s H Pc As)
    (hg : g.method = m) (hn : As.length = n) (hsize : g.locals.size = nL) (hstack : g.stack = As.reverse ++ rest) (hW : 2 * g.monitorRoom + (rest.map fun v => v.category).sum ≤ 8) (hdg : decode cc g.pc = .ok (.invokestatic index, 3)) (hf : cells + mc ≤ R.cells ∧ slots + ms ≤ R.slots) :
    va_Run p l e R s m args below meth c H locs cells slots mc ms g rest (Qc As.toArray) (free) := by
  obtain ⟨⟨hrc, hrs, hfr, hlo, hws, hcw⟩, hcode, hini, hy, hlen, hl, hstt⟩ := cw
  have hK : Back l R p e below s args y 3 8 (PreOf R mc ms Pc) (PostOf Qc mc ms free) := va_backW (hh := hh) (bytes := bytes) (maxL := maxL) (ret := ret) hM hp.1 hrc hrs hfr hlo hws hcw (fun a' U hW => word_at hW (Or.inl (by first | rfl | simp [Cond.onTables, Cond.keeps, Cond.steady])) hini)
  obtain ⟨hx, hb, hml, ho, -⟩ := S
  intro T hT X
  obtain ⟨v, vm₁, ⟨U', l2, c2, s2⟩, hW₁, X', ⟨g', mk, t, L, e1, e2, hq, h1, hL, h2, h3⟩, st⟩ := vx_callSW X hx (hh := hh) (bytes := bytes) (maxL := maxL) (ret := ret) ho hl hstt hini hcode hy hK hg (hsize.trans hml.symm) (argsL := As) (rest := rest) (fun sig h => hn.trans (hlen sig h)) hstack hW (by rw [hb]; exact hdg)
    (fun vm₁ hW₁ => ⟨hf.1, hf.2, hp.2 (T.setVm vm₁) hT hW₁⟩)
  dsimp only [Pt.U, Pt.locs, Pt.cells, Pt.slots] at X' e1 e2 h1 h2 h3 st
  subst h1; subst h2; subst h3
  exact ⟨v, (T.setVm vm₁).calling g' mk As.toArray, t, U', L, hT, X', hL, e1, e2, hq, st⟩
/-- not caught here, past rows that name other classes: it goes on to the caller -/
theorem vx_outP {p : Program} {l : Launch} {e : Env} {R : Room} {s : State} {m : MethodId} {args : Array Value} {below : List Frame} {meth : Method} {c : Code} {H : Heap} {locs : List Loc} {cells slots : Nat} {free : Addr → Prop} {ls : Array Slot} {rest : List Value} {Qc : Array Value → State → Outcome → State → Prop} {XC : String → State → State → Prop}
    {pc : Nat} {own E : String} {ce : Cell} {q : Addr} {mc ms : Nat} (hown : s.vm.findClass own = some m.cls) (hlocks : meth.locks = false)
    (hpass : ∀ z ∈ c.exceptionTable.toList, covers z pc = false ∨ (z.catchType ≠ 0 ∧ ∃ nm : String, (Cond.classLink own z.catchType nm).before args s = true ∧ va_Nc E nm s)) (hcell : H[q]? = some ce) (hv : ce.vm = .none) (hcl : s.vm.findClass E = some ce.cls)
    (hx : ∀ t : State, t.heap = H → s.vm.Alike t.vm → XC E s t) (hf : ∀ z ∈ locs, free z.base) (hc : cells ≤ mc) (hs : slots ≤ ms) :
    vx_W p l e R s m args below meth c H locs cells slots (vx_MQ below Qc XC args s mc ms free) (F0 m pc ls rest) q := by
  intro T hT X
  have hpl : e.platform.magicAccessors = ({} : Platform).magicAccessors := by rw [X.admits.platform]
  obtain ⟨vm', hW', X', st⟩ := X.outThrough hlocks q (g := F0 m pc ls rest) rfl rfl rfl (cell := ce) (by rw [hT]; exact hcell) (by rw [hv]; rfl)
    (by obtain ⟨k9, h9, -⟩ := Vm.findClass_spec hcl; exact ⟨k9, h9⟩) (fun z hz => by
      rcases hpass z hz with h | ⟨hz0, nm, hl1, hn1⟩
      · exact Or.inl h
      · obtain ⟨c6, hc6, hcl6⟩ := Cond.classLink_spec hown hl1 e.platform hpl
        obtain ⟨a8, b8, h1, h2, h3⟩ := hn1
        cases Option.some.inj (h1.symm.trans hcl)
        cases Option.some.inj (h2.symm.trans hc6)
        exact Or.inr ⟨hz0, _, hcl6, h3⟩)
  obtain ⟨g₀, hfr⟩ := X'.frames_eq
  have hcell9 : ((T.setVm vm').setFrames (.throwing q :: below)).heap[q]? = some ce := by
    show T.heap[q]? = some ce
    rw [hT]; exact hcell
  have hend : Ended ((T.setVm vm').setFrames (.throwing q :: below)) below (.threw q) := State.frames_setFrames _ (State.cur_lt_of_frames hfr)
  refine ⟨(T.setVm vm').setFrames (.throwing q :: below), ?_, .threw q, X'.here.running, hend, Or.inr ⟨q, rfl, E, ce, locs, hx _ hT (X'.ends _).1.alike, hcell9, hv, hcl, (X'.ends _).1, (X'.ends _).2.mono hc hs, hf⟩⟩
  rw [X.pushThrowing_eq]
  exact st
/-- a thing of a world lies in the heap -/
theorem vx_lt {D : va_G} {cl : List vw_C} {ws : va_W} {H1 : Heap} (h : va_P D cl ws H1) {k : Nat} {q : Nat × va_E} (hk : ws[k]? = some q) : q.1 < H1.size := (h k q hk).lt
end VXS
/-! ===== END ===== -/
/-! ===== BEGIN methods with a table of their own: called by a name, returning or throwing ===== -/
section VXH
/-! vx_backW, vx_callVX, vx_callSX, vx_callVW, vx_runVW, vx_runVX, vx_runSX, vx_ofWH follow the same proofs as their sisters above (Free/Laws.lean, Shelf42/LK1.lean); vx_outP calls Shelf42/NT130.lean (outThrough). -/
section
variable {l : Launch} {R : Room} {p : Program} {e : Env} {below : List Frame} {s : State} {sargs : Array Value} {y : MethodName} {len W9 : Nat}
theorem vx_backW {ws : List Cond} {rm : Room} {Pc : Array Value → State → Prop} {Qc : Array Value → State → Outcome → State → Prop} {XC : String → State → State → Prop} {mc ms : Nat} {free : Addr → Prop} {bytes : ByteArray} {maxL : Nat} {ret : Option FieldType} {hh : List (Nat × Nat × Nat × Nat)}
    (hM : vx_Met l y ws rm Pc Qc XC mc ms free) (hblind : FrameBlind Pc) (hrc : rm.cells = mc) (hrs : rm.slots = ms)
    (hframes : rm.frames + 1 ≤ R.frames) (hlocals : W9 + (maxL + 11) + rm.locals ≤ R.locals)
    (hws : ∀ w ∈ ws, ∀ a' U, s.WarmedH U.vm → w.before a' U = true) (hcode : Cond.codeWith y bytes maxL ret hh ∈ ws) (hinit : ∀ a' U, s.WarmedH U.vm → (Cond.initialized y.cls).before a' U = true) :
    vx_Back l R p e below s sargs y len W9 (PreOf R mc ms Pc) (PostOf Qc mc ms free) (vx_Post XC mc ms free) := by
  intro m meth c A g ig mk a X hg hsize hdg hW hn hp
  have h1 : (headSpec ws rm).pre.before a A.U = true := atoms_intro fun w hw => hws w hw _ _ X.warmed
  have h2 : (Cond.codeWith y bytes maxL ret hh).before a A.U = true := hws _ hcode _ _ X.warmed
  have h3 : (Cond.initialized y.cls).before a A.U = true := hinit _ _ X.warmed
  have h4 : A.cells + (headSpec ws rm).room.cells ≤ R.cells := by rw [show (headSpec ws rm).room.cells = mc from hrc]; exact hp.1
  have h5 : A.slots + (headSpec ws rm).room.slots ≤ R.slots := by rw [show (headSpec ws rm).room.slots = ms from hrs]; exact hp.2.1
  have hPc : Pc a (A.U.calling g mk a) := hblind _ _ _ _ hp.2.2
  obtain ⟨U, Ls, c0, s0⟩ := A
  dsimp only [Pt.U, Pt.locs, Pt.cells, Pt.slots] at h1 h2 h3 h4 h5 X hn hPc ⊢
  obtain ⟨m9, methY, cY, hn9, hmY, hcY, -, hlY, -⟩ := Cond.codeWith_spec h2
  cases Option.some.inj (hn9.symm.trans hn)
  obtain ⟨kY, hkY, -⟩ := className_of_methodNamed hn
  have hinitY : kY.init = .initialized := Cond.initialized_spec (findClass_of_methodNamed hn) hkY h3
  have h : At U g.method c below := by rw [hg]; exact X.here
  have hlocals9 : W9 + (maxL + 11) + (headSpec ws rm).room.locals ≤ R.locals := hlocals
  have happ : (headSpec ws rm).appliesLoose y e.platform (U.calling g mk a) = true :=
    Spec.appliesLoose_calling (g := g) h hdg hn hkY hinitY
      (X.room_calling (g := g) (R' := (headSpec ws rm).room) hsize hmY hcY hframes (by rw [hlY]; omega) h4 h5) h1
  obtain ⟨mid, hmid⟩ := h.above
  have hfr : (U.setTop g).frames = (.java g :: mid) ++ below := by rw [State.frames_setTop' g h.top, hmid]; rfl
  obtain ⟨o, s₂, hsteps, -, hend, hq⟩ := Steps.callFree hM p X.admits X.cas X.clock (acts := []) hfr happ hPc trivial
  have hq' : vx_Q Qc XC mc ms free a (U.calling g mk a) o s₂ := hq
  rw [State.frames_setTop' g h.top] at hend
  obtain ⟨g₀, hg0⟩ := Option.isSome_iff_exists.mp h.top
  obtain ⟨r, hr⟩ := State.topJava?_eq_some.mp hg0
  have hr' : (({ U with heap := s₂.heap, slotsUsed := s₂.slotsUsed } : State).setVm s₂.vm).frames = .java g₀ :: r := hr
  rcases hq' with ⟨hqc, L, hfe, hL⟩ | ⟨q, rfl, E, ce, L, hx, hce, hcv, hcl, hW₂, hsm, hL⟩
  · obtain ⟨⟨v, rfl⟩, hW₂, e2, q2, q3, q4, q5, q6⟩ := id hfe
    have e3 : s₂ = ({ (U.calling g mk a).setFrames s₂.frames with heap := s₂.heap, slotsUsed := s₂.slotsUsed } : State).setVm s₂.vm := by
      have : s₂ = ({ s₂ with vm := (U.calling g mk a).vm } : State).setVm s₂.vm := rfl
      rw [e2] at this
      exact this
    obtain ⟨c₂, i₂, len₂, hc₂, hd₂, hf₂⟩ := hend
    have hW' : U.WarmedH s₂.vm := hW₂
    have hcc : c₂ = c := by
      have h1 : s₂.code? g.method = U.code? g.method := by
        rw [State.code?_eq, State.code?_eq, hW'.alike.method?]
      exact Option.some.inj (hc₂.symm.trans (h1.trans h.code))
    subst hcc
    have hlen : len₂ = len := by rw [hdg] at hd₂; cases hd₂; rfl
    subst hlen
    have hs₂ : s₂ = (({ U with heap := s₂.heap, slotsUsed := s₂.slotsUsed } : State).setVm s₂.vm).setTop { g with pc := g.pc + len₂, stack := v.toList ++ g.stack } := by
      refine e3.trans ?_
      rw [hf₂, State.calling_eq h.top, State.setFrames_setFrames, State.setTop_of_frames _ hr', hr]
      rfl
    have hsame : U.sameButNew ({ U with heap := s₂.heap, slotsUsed := s₂.slotsUsed } : State) L mc ms := by
      refine ⟨?_, q2, q3, q4, q5, q6⟩
      obtain ⟨t, ht, -⟩ := State.frames_cons hr
      show ({ U with heap := s₂.heap, slotsUsed := s₂.slotsUsed } : State) = { U.setFrames U.frames with heap := s₂.heap, slotsUsed := s₂.slotsUsed }
      rw [State.setFrames_self ht]
    subst hg
    refine Or.inl ⟨v, ⟨(({ U with heap := s₂.heap, slotsUsed := s₂.slotsUsed } : State).setVm s₂.vm), Ls ++ L, c0 + mc, s0 + ms⟩,
      ⟨X.admits, X.cas, X.clock, X.frames, X.room, X.hears, X.method, X.code, (X.here.setHeapUsed s₂.heap s₂.slotsUsed).setVm hW'.alike, X.tail, State.WarmedH.trans X.warmed hW', X.limits, X.bytes, X.same.trans (hsame.setVm s.vm)⟩,
      ⟨g, mk, s₂, L, rfl, rfl, hqc, rfl, hL, rfl, rfl⟩, ?_⟩
    show Steps p.tables e below _ ((({ U with heap := s₂.heap, slotsUsed := s₂.slotsUsed } : State).setVm s₂.vm).setTop { g with pc := g.pc + len₂, stack := v.toList ++ g.stack })
    rw [← hs₂]
    exact hsteps
  · obtain ⟨e2, q2, q3, q4, q5, q6⟩ := id hsm
    have e3 : s₂ = ({ (U.calling g mk a).setFrames s₂.frames with heap := s₂.heap, slotsUsed := s₂.slotsUsed } : State).setVm s₂.vm := by
      have : s₂ = ({ s₂ with vm := (U.calling g mk a).vm } : State).setVm s₂.vm := rfl
      rw [e2] at this
      exact this
    have hf₂ : s₂.frames = .throwing q :: .java g :: U.frames.tail := hend
    have hW' : U.WarmedH s₂.vm := hW₂
    have hs₂ : s₂ = ((({ U with heap := s₂.heap, slotsUsed := s₂.slotsUsed } : State).setVm s₂.vm).setTop g).pushFrame (.throwing q) := by
      refine e3.trans ?_
      rw [hf₂, State.calling_eq h.top, State.setFrames_setFrames, State.pushFrame, State.frames_setTop _ hr', State.setTop_of_frames _ hr', State.setFrames_setFrames, hr]
      rfl
    have hsame : U.sameButNew ({ U with heap := s₂.heap, slotsUsed := s₂.slotsUsed } : State) L mc ms := by
      refine ⟨?_, q2, q3, q4, q5, q6⟩
      obtain ⟨t, ht, -⟩ := State.frames_cons hr
      show ({ U with heap := s₂.heap, slotsUsed := s₂.slotsUsed } : State) = { U.setFrames U.frames with heap := s₂.heap, slotsUsed := s₂.slotsUsed }
      rw [State.setFrames_self ht]
    subst hg
    refine Or.inr ⟨q, ⟨(({ U with heap := s₂.heap, slotsUsed := s₂.slotsUsed } : State).setVm s₂.vm), Ls ++ L, c0 + mc, s0 + ms⟩,
      ⟨X.admits, X.cas, X.clock, X.frames, X.room, X.hears, X.method, X.code, (X.here.setHeapUsed s₂.heap s₂.slotsUsed).setVm hW'.alike, X.tail, State.WarmedH.trans X.warmed hW', X.limits, X.bytes, X.same.trans (hsame.setVm s.vm)⟩,
      ⟨g, mk, s₂, L, E, ce, rfl, rfl, hx, hce, hcv, hcl, rfl, hL, rfl, rfl⟩, ?_⟩
    show Steps p.tables e below _ (((({ U with heap := s₂.heap, slotsUsed := s₂.slotsUsed } : State).setVm s₂.vm).setTop g).pushFrame (.throwing q))
    rw [← hs₂]
    exact hsteps
end
variable {p : Program} {l : Launch} {e : Env} {R : Room} {s : State} {m : MethodId} {args : Array Value} {below : List Frame} {meth : Method} {c : Code} {T : State} {H : Heap} {locs : List Loc} {cells slots : Nat}
theorem vx_callVX (X : Stand p l e R s m args below meth c T locs cells slots) (hexec : p.tables.exec = Jvm.exec) {own C : String} {index : Nat} {y : MethodName} {bytes : ByteArray} {maxL : Nat} {ret : Option FieldType} {hh : List (Nat × Nat × Nat × Nat)}
    (hown : s.vm.findClass own = some m.cls) (hlink : (Cond.methodLink own index y).before args s = true) (hinst : (Cond.instanceMethod y).before args s = true) (hsel : (Cond.selects C y y).before args s = true)
    (hcode : (Cond.codeWith y bytes maxL ret hh).before args s = true) (hy : y.cls ≠ "java/lang/invoke/MethodHandle" ∧ y.cls ≠ "java/lang/invoke/VarHandle")
    {W9 : Nat} {Pre : Pt → Array Value → Prop} {Post : Pt → Array Value → Option Value → Pt → Prop} {PostX : Pt → Array Value → Addr → Pt → Prop} (hK : vx_Back l R p e below s args y 3 W9 Pre Post PostX)
    {b : Addr} {cellB : Cell} (hcell : T.heap[b]? = some cellB) (hobj : cellB.vm.isStatics = false) (hcls : s.vm.findClass C = some cellB.cls)
    {g : JFrame} (hg : g.method = m) (hsize : g.locals.size = c.maxLocals) {argsL rest : List Value} (hlen : ∀ sig, parseMethodDescriptor y.desc = some sig → argsL.length = sig.parameters.length)
    (hstack : g.stack = argsL.reverse ++ .ref b :: rest) (hW : 2 * g.monitorRoom + (rest.map fun v => v.category).sum ≤ W9) (hdg : decode c.code g.pc = .ok (.invokevirtual index, 3))
    (hpre : ∀ vm₁, s.WarmedH vm₁ → Pre ⟨T.setVm vm₁, locs, cells, slots⟩ (Value.ref b :: argsL).toArray) :
    (∃ (v : Option Value) (vm₁ : Vm) (B : Pt), s.WarmedH vm₁ ∧ Stand p l e R s m args below meth c B.U B.locs B.cells B.slots ∧ Post ⟨T.setVm vm₁, locs, cells, slots⟩ (Value.ref b :: argsL).toArray v B ∧
      ∀ target, Steps p.tables e below (B.U.setTop { g with pc := g.pc + 3, stack := v.toList ++ rest }) target → Steps p.tables e below (T.setTop g) target) ∨
    (∃ (q : Addr) (vm₁ : Vm) (B : Pt), s.WarmedH vm₁ ∧ Stand p l e R s m args below meth c B.U B.locs B.cells B.slots ∧ PostX ⟨T.setVm vm₁, locs, cells, slots⟩ (Value.ref b :: argsL).toArray q B ∧
      Steps p.tables e below (T.setTop g) ((B.U.setTop { g with stack := rest }).pushFrame (.throwing q))) := by
  obtain ⟨mk, methM, hnamed, hmethM, hstM, habM⟩ := Cond.instanceMethod_spec hinst
  obtain ⟨m8, methM', cM, hn8, hmethM', -, -, -, -, -, -, hsigM⟩ := Cond.codeWith_spec hcode
  cases Option.some.inj (hn8.symm.trans hnamed)
  cases hmethM.symm.trans hmethM'
  obtain ⟨c2, r2, m2, q1, q2, q3, q4, kP, hkP, hkPi⟩ := Cond.selects_spec hsel
  cases hcls.symm.trans q1
  cases (State.methodFound?_of_named hnamed hy).symm.trans q2
  cases hnamed.symm.trans q3
  have hselP : selectMethod e.platform s.vm cellB.cls mk = .method mk := by rw [Launch.admits_selectMethod X.admits]; exact q4
  obtain ⟨vm₁, X₁, hstep₁⟩ := X.invokevirtual hexec hown hlink hnamed hmethM hstM hkP hkPi hy (a := b) (cell := cellB) hcell
    (fun z h => by rw [h] at hobj; cases hobj) hselP hmethM habM hkP hkPi (g := g) hg (argsL := argsL) (rest := rest) (hlen _ hsigM) hstack hdg
  rcases hK m meth c ⟨T.setVm vm₁, locs, cells, slots⟩ { g with stack := rest } (.invokevirtual index) mk (Value.ref b :: argsL).toArray X₁ hg hsize hdg hW (X₁.named hnamed) (hpre vm₁ X₁.warmed) with ⟨v, B, X', hpost, hsteps⟩ | ⟨q, B, X', hpost, hsteps⟩
  · exact Or.inl ⟨v, vm₁, B, X₁.warmed, X', hpost, fun target h => hstep₁ _ fun acts => by rw [doInvoke_state]; exact hsteps.trans h⟩
  · exact Or.inr ⟨q, vm₁, B, X₁.warmed, X', hpost, hstep₁ _ fun acts => by rw [doInvoke_state]; exact hsteps⟩
theorem vx_callSX (X : Stand p l e R s m args below meth c T locs cells slots) (hexec : p.tables.exec = Jvm.exec) {own : String} {index : Nat} {y : MethodName} {bytes : ByteArray} {maxL : Nat} {ret : Option FieldType} {hh : List (Nat × Nat × Nat × Nat)}
    (hown : s.vm.findClass own = some m.cls) (hlink : (Cond.methodLink own index y).before args s = true) (hstat : (Cond.static y).before args s = true) (hinit : (Cond.initialized y.cls).before args s = true)
    (hcode : (Cond.codeWith y bytes maxL ret hh).before args s = true) (hy : y.cls ≠ "java/lang/invoke/MethodHandle" ∧ y.cls ≠ "java/lang/invoke/VarHandle")
    {W9 : Nat} {Pre : Pt → Array Value → Prop} {Post : Pt → Array Value → Option Value → Pt → Prop} {PostX : Pt → Array Value → Addr → Pt → Prop} (hK : vx_Back l R p e below s args y 3 W9 Pre Post PostX)
    {g : JFrame} (hg : g.method = m) (hsize : g.locals.size = c.maxLocals) {argsL rest : List Value} (hlen : ∀ sig, parseMethodDescriptor y.desc = some sig → argsL.length = sig.parameters.length)
    (hstack : g.stack = argsL.reverse ++ rest) (hW : 2 * g.monitorRoom + (rest.map fun v => v.category).sum ≤ W9) (hdg : decode c.code g.pc = .ok (.invokestatic index, 3))
    (hpre : ∀ vm₁, s.WarmedH vm₁ → Pre ⟨T.setVm vm₁, locs, cells, slots⟩ argsL.toArray) :
    (∃ (v : Option Value) (vm₁ : Vm) (B : Pt), s.WarmedH vm₁ ∧ Stand p l e R s m args below meth c B.U B.locs B.cells B.slots ∧ Post ⟨T.setVm vm₁, locs, cells, slots⟩ argsL.toArray v B ∧
      ∀ target, Steps p.tables e below (B.U.setTop { g with pc := g.pc + 3, stack := v.toList ++ rest }) target → Steps p.tables e below (T.setTop g) target) ∨
    (∃ (q : Addr) (vm₁ : Vm) (B : Pt), s.WarmedH vm₁ ∧ Stand p l e R s m args below meth c B.U B.locs B.cells B.slots ∧ PostX ⟨T.setVm vm₁, locs, cells, slots⟩ argsL.toArray q B ∧
      Steps p.tables e below (T.setTop g) ((B.U.setTop { g with stack := rest }).pushFrame (.throwing q))) := by
  obtain ⟨mk, methM, cM, hnamed, hmethM, -, -, -, -, -, -, hsigM⟩ := Cond.codeWith_spec hcode
  have hstatic : methM.isStatic = true := Cond.static_spec hnamed hmethM hstat
  obtain ⟨kP, hkP, -⟩ := className_of_methodNamed hnamed
  have hinitP : kP.init = .initialized := Cond.initialized_spec (findClass_of_methodNamed hnamed) hkP hinit
  obtain ⟨vm₁, X₁, hstep₁⟩ := X.invokestatic hexec hown hlink hnamed hmethM hstatic hkP hinitP hy (g := g) hg (argsL := argsL) (rest := rest) (hlen _ hsigM) hstack hdg
  rcases hK m meth c ⟨T.setVm vm₁, locs, cells, slots⟩ { g with stack := rest } (.invokestatic index) mk argsL.toArray X₁ hg hsize hdg hW (X₁.named hnamed) (hpre vm₁ X₁.warmed) with ⟨v, B, X', hpost, hsteps⟩ | ⟨q, B, X', hpost, hsteps⟩
  · exact Or.inl ⟨v, vm₁, B, X₁.warmed, X', hpost, fun target h => hstep₁ _ fun acts => by rw [doInvoke_state]; exact hsteps.trans h⟩
  · exact Or.inr ⟨q, vm₁, B, X₁.warmed, X', hpost, hstep₁ _ fun acts => by rw [doInvoke_state]; exact hsteps⟩
theorem vx_callVW (X : Stand p l e R s m args below meth c T locs cells slots) (hexec : p.tables.exec = Jvm.exec) {own C : String} {index : Nat} {y : MethodName} {bytes : ByteArray} {maxL : Nat} {ret : Option FieldType} {hh : List (Nat × Nat × Nat × Nat)}
    (hown : s.vm.findClass own = some m.cls) (hlink : (Cond.methodLink own index y).before args s = true) (hinst : (Cond.instanceMethod y).before args s = true) (hsel : (Cond.selects C y y).before args s = true)
    (hcode : (Cond.codeWith y bytes maxL ret hh).before args s = true) (hy : y.cls ≠ "java/lang/invoke/MethodHandle" ∧ y.cls ≠ "java/lang/invoke/VarHandle")
    {W9 : Nat} {Pre : Pt → Array Value → Prop} {Post : Pt → Array Value → Option Value → Pt → Prop} (hK : Back l R p e below s args y 3 W9 Pre Post)
    {b : Addr} {cellB : Cell} (hcell : T.heap[b]? = some cellB) (hobj : cellB.vm.isStatics = false) (hcls : s.vm.findClass C = some cellB.cls)
    {g : JFrame} (hg : g.method = m) (hsize : g.locals.size = c.maxLocals) {argsL rest : List Value} (hlen : ∀ sig, parseMethodDescriptor y.desc = some sig → argsL.length = sig.parameters.length)
    (hstack : g.stack = argsL.reverse ++ .ref b :: rest) (hW : 2 * g.monitorRoom + (rest.map fun v => v.category).sum ≤ W9) (hdg : decode c.code g.pc = .ok (.invokevirtual index, 3))
    (hpre : ∀ vm₁, s.WarmedH vm₁ → Pre ⟨T.setVm vm₁, locs, cells, slots⟩ (Value.ref b :: argsL).toArray) :
    ∃ (v : Option Value) (vm₁ : Vm) (B : Pt), s.WarmedH vm₁ ∧ Stand p l e R s m args below meth c B.U B.locs B.cells B.slots ∧ Post ⟨T.setVm vm₁, locs, cells, slots⟩ (Value.ref b :: argsL).toArray v B ∧
      ∀ target, Steps p.tables e below (B.U.setTop { g with pc := g.pc + 3, stack := v.toList ++ rest }) target → Steps p.tables e below (T.setTop g) target := by
  obtain ⟨mk, methM, hnamed, hmethM, hstM, habM⟩ := Cond.instanceMethod_spec hinst
  obtain ⟨m8, methM', cM, hn8, hmethM', -, -, -, -, -, -, hsigM⟩ := Cond.codeWith_spec hcode
  cases Option.some.inj (hn8.symm.trans hnamed)
  cases hmethM.symm.trans hmethM'
  obtain ⟨c2, r2, m2, q1, q2, q3, q4, kP, hkP, hkPi⟩ := Cond.selects_spec hsel
  cases hcls.symm.trans q1
  cases (State.methodFound?_of_named hnamed hy).symm.trans q2
  cases hnamed.symm.trans q3
  have hselP : selectMethod e.platform s.vm cellB.cls mk = .method mk := by rw [Launch.admits_selectMethod X.admits]; exact q4
  obtain ⟨vm₁, X₁, hstep₁⟩ := X.invokevirtual hexec hown hlink hnamed hmethM hstM hkP hkPi hy (a := b) (cell := cellB) hcell
    (fun z h => by rw [h] at hobj; cases hobj) hselP hmethM habM hkP hkPi (g := g) hg (argsL := argsL) (rest := rest) (hlen _ hsigM) hstack hdg
  obtain ⟨v, B, X', hpost, hsteps⟩ := hK m meth c ⟨T.setVm vm₁, locs, cells, slots⟩ { g with stack := rest } (.invokevirtual index) mk (Value.ref b :: argsL).toArray X₁ hg hsize hdg hW (X₁.named hnamed) (hpre vm₁ X₁.warmed)
  exact ⟨v, vm₁, B, X₁.warmed, X', hpost, fun target h => hstep₁ _ fun acts => by rw [doInvoke_state]; exact hsteps.trans h⟩
abbrev vx_CVW (R : Room) (s : State) (args : Array Value) (own C : String) (index : Nat) (y : MethodName) (bytes : ByteArray) (maxL : Nat) (ret : Option FieldType) (hh : List (Nat × Nat × Nat × Nat)) (ws : List Cond) (rm : Room) (mc ms n : Nat) : Prop :=
  (rm.cells = mc ∧ rm.slots = ms ∧ rm.frames + 1 ≤ R.frames ∧ 8 + (maxL + 11) + rm.locals ≤ R.locals ∧ (∀ w ∈ ws, ∀ (a' : Array Value) (U : State), s.WarmedH U.vm → w.before a' U = true) ∧ Cond.codeWith y bytes maxL ret hh ∈ ws) ∧
  (Cond.codeWith y bytes maxL ret hh).before args s = true ∧ (Cond.initialized y.cls).before args s = true ∧ (y.cls ≠ "java/lang/invoke/MethodHandle" ∧ y.cls ≠ "java/lang/invoke/VarHandle") ∧
  (∀ sig, parseMethodDescriptor y.desc = some sig → n = sig.parameters.length) ∧ (Cond.methodLink own index y).before args s = true ∧ (Cond.instanceMethod y).before args s = true ∧ (Cond.selects C y y).before args s = true
theorem vx_cwVW {own C : String} {index maxL mc ms : Nat} {y : MethodName} {bytes : ByteArray} {ret : Option FieldType} {hh : List (Nat × Nat × Nat × Nat)} {Ts ws ws' : List Cond} {rm : Room} (n : Nat) (ht : ∀ w ∈ Ts, w.before args s = true) (hT : GoodIn Ts (wsV own index C y ws)) (hw : ws = Cond.codeWith y bytes maxL ret hh :: ws') (hrc : rm.cells = mc) (hrs : rm.slots = ms)
    (hd : y.cls = C ∧ y.cls ≠ "java/lang/invoke/MethodHandle" ∧ y.cls ≠ "java/lang/invoke/VarHandle" ∧ (parseMethodDescriptor y.desc).map (fun d => d.parameters.length) = some n) (hR : rm.frames + 1 ≤ R.frames ∧ 8 + (maxL + 11) + rm.locals ≤ R.locals) :
    vx_CVW R s args own C index y bytes maxL ret hh ws rm mc ms n := by
  obtain ⟨hC, hd⟩ := hd
  subst hC
  have ok : ∀ w ∈ wsV own index y.cls y ws, w.before args s = true := fun w h => ht w (hT w h).1
  have hG : GoodIn Ts ws := fun w h => hT w (by unfold wsV; exact List.mem_append_right _ h)
  have hc : Cond.codeWith y bytes maxL ret hh ∈ ws := by rw [hw]; exact List.mem_cons_self
  refine ⟨⟨hrc, hrs, hR.1, hR.2, pay_in ht hG, hc⟩, ht _ (hG _ hc).1, ok _ (by simp [wsV]), ⟨hd.1, hd.2.1⟩, fun sig h => ?_, ok _ (by simp [wsV]), ok _ (by simp [wsV]), ok _ (by simp [wsV])⟩
  have h2 := hd.2.2
  rw [h] at h2
  exact (Option.some.inj h2).symm
theorem vx_runVW {y : MethodName} {bytes cc : ByteArray} {maxL nL mc ms n index : Nat} {ret : Option FieldType} {hh : List (Nat × Nat × Nat × Nat)} {ws : List Cond} {rm : Room} {Pc : Array Value → State → Prop} {Qc : Array Value → State → Outcome → State → Prop} {free : Addr → Prop} {Ts : List Cond} {own C : String} {b : Addr} {As rest : List Value} {g : JFrame}
    (S : CallFix p m c cc nL s args Ts own) (hM : Met l y ws rm Pc Qc mc ms free) (cw : vx_CVW R s args own C index y bytes maxL ret hh ws rm mc ms n) (hp : PreV s H C b Pc As)
    (hg : g.method = m) (hn : As.length = n) (hsize : g.locals.size = nL) (hstack : g.stack = As.reverse ++ .ref b :: rest) (hW : 2 * g.monitorRoom + (rest.map fun v => v.category).sum ≤ 8) (hdg : decode cc g.pc = .ok (.invokevirtual index, 3)) (hf : cells + mc ≤ R.cells ∧ slots + ms ≤ R.slots) :
    va_Run p l e R s m args below meth c H locs cells slots mc ms g rest (Qc (Value.ref b :: As).toArray) free := by
  obtain ⟨⟨hrc, hrs, hfr, hlo, hws, hcw⟩, hcode, hini, hy, hlen, hl, hin, hse⟩ := cw
  have hK : Back l R p e below s args y 3 8 (PreOf R mc ms Pc) (PostOf Qc mc ms free) := va_backW (hh := hh) (bytes := bytes) (maxL := maxL) (ret := ret) hM hp.1 hrc hrs hfr hlo hws hcw (fun a' U hW => word_at hW (Or.inl (by first | rfl | simp [Cond.onTables, Cond.keeps, Cond.steady])) hini)
  obtain ⟨hx, hb, hml, ho, -⟩ := S
  obtain ⟨-, ⟨cellB, hcB, hoB, hclB⟩, hPc⟩ := hp
  intro T hT X
  obtain ⟨v, vm₁, ⟨U', l2, c2, s2⟩, hW₁, X', ⟨g', mk, t, L, e1, e2, hq, h1, hL, h2, h3⟩, st⟩ := vx_callVW X hx (C := C) (hh := hh) (bytes := bytes) (maxL := maxL) (ret := ret) ho hl hin hse hcode hy hK (by rw [hT]; exact hcB) hoB hclB hg (hsize.trans hml.symm) (argsL := As) (rest := rest) (fun sig h => hn.trans (hlen sig h)) hstack hW (by rw [hb]; exact hdg)
    (fun vm₁ hW₁ => ⟨hf.1, hf.2, hPc (T.setVm vm₁) hT hW₁⟩)
  dsimp only [Pt.U, Pt.locs, Pt.cells, Pt.slots] at X' e1 e2 h1 h2 h3 st
  subst h1; subst h2; subst h3
  exact ⟨v, (T.setVm vm₁).calling g' mk (Value.ref b :: As).toArray, t, U', L, hT, X', hL, e1, e2, hq, st⟩
section
variable {y : MethodName} {bytes cc : ByteArray} {maxL nL mc ms n index : Nat} {ret : Option FieldType} {ws : List Cond} {rm : Room} {Pc : Array Value → State → Prop} {Qc : Array Value → State → Outcome → State → Prop} {XC : String → State → State → Prop} {free : Addr → Prop} {Ts : List Cond} {own C : String} {b : Addr} {As rest : List Value} {g : JFrame}
theorem vx_runVX {hh : List (Nat × Nat × Nat × Nat)} (S : CallFix p m c cc nL s args Ts own) (hM : vx_Met l y ws rm Pc Qc XC mc ms free) (cw : vx_CVW R s args own C index y bytes maxL ret hh ws rm mc ms n) (hp : PreV s H C b Pc As)
    (hg : g.method = m) (hn : As.length = n) (hsize : g.locals.size = nL) (hstack : g.stack = As.reverse ++ .ref b :: rest) (hW : 2 * g.monitorRoom + (rest.map fun v => v.category).sum ≤ 8) (hdg : decode cc g.pc = .ok (.invokevirtual index, 3)) (hf : cells + mc ≤ R.cells ∧ slots + ms ≤ R.slots) :
    vx_Run p l e R s m args below meth c H locs cells slots mc ms g rest (Qc (Value.ref b :: As).toArray) XC free := by
  obtain ⟨⟨hrc, hrs, hfr, hlo, hws, hcw⟩, hcode, hini, hy, hlen, hl, hin, hse⟩ := cw
  have hK : vx_Back l R p e below s args y 3 8 (PreOf R mc ms Pc) (PostOf Qc mc ms free) (vx_Post XC mc ms free) := vx_backW (hh := hh) (bytes := bytes) (maxL := maxL) (ret := ret) hM hp.1 hrc hrs hfr hlo hws hcw (fun a' U hW => word_at hW (Or.inl (by first | rfl | simp [Cond.onTables, Cond.keeps, Cond.steady])) hini)
  obtain ⟨hx, hb, hml, ho, -⟩ := S
  obtain ⟨-, ⟨cellB, hcB, hoB, hclB⟩, hPc⟩ := hp
  intro T hT X
  rcases vx_callVX X hx (C := C) (hh := hh) (bytes := bytes) (maxL := maxL) (ret := ret) ho hl hin hse hcode hy hK (by rw [hT]; exact hcB) hoB hclB hg (hsize.trans hml.symm) (argsL := As) (rest := rest) (fun sig h => hn.trans (hlen sig h)) hstack hW (by rw [hb]; exact hdg)
    (fun vm₁ hW₁ => ⟨hf.1, hf.2, hPc (T.setVm vm₁) hT hW₁⟩) with ⟨v, vm₁, ⟨U', l2, c2, s2⟩, hW₁, X', ⟨g', mk, t, L, e1, e2, hq, h1, hL, h2, h3⟩, st⟩ | ⟨q, vm₁, ⟨U', l2, c2, s2⟩, hW₁, X', ⟨g', mk, t, L, E, ce, e1, e2, hq, hce, hcv, hcl, h1, hL, h2, h3⟩, st⟩
  · dsimp only [Pt.U, Pt.locs, Pt.cells, Pt.slots] at X' e1 e2 h1 h2 h3 st
    subst h1; subst h2; subst h3
    exact Or.inl ⟨v, (T.setVm vm₁).calling g' mk (Value.ref b :: As).toArray, t, U', L, hT, X', hL, e1, e2, hq, st⟩
  · dsimp only [Pt.U, Pt.locs, Pt.cells, Pt.slots] at X' e1 e2 h1 h2 h3 st hcl
    subst h1; subst h2; subst h3
    exact Or.inr ⟨q, (T.setVm vm₁).calling g' mk (Value.ref b :: As).toArray, t, U', L, E, ce, hT, X', hL, e1, e2, hq, hce, hcv, vx_cls hW₁ hcl, st⟩
theorem vx_runSX {hh : List (Nat × Nat × Nat × Nat)} (S : CallFix p m c cc nL s args Ts own) (hM : vx_Met l y ws rm Pc Qc XC mc ms free) (cw : vx_CSW R s args own index y bytes maxL ret hh ws rm mc ms n) (hp : PreS s H Pc As)
    (hg : g.method = m) (hn : As.length = n) (hsize : g.locals.size = nL) (hstack : g.stack = As.reverse ++ rest) (hW : 2 * g.monitorRoom + (rest.map fun v => v.category).sum ≤ 8) (hdg : decode cc g.pc = .ok (.invokestatic index, 3)) (hf : cells + mc ≤ R.cells ∧ slots + ms ≤ R.slots) :
    vx_Run p l e R s m args below meth c H locs cells slots mc ms g rest (Qc As.toArray) XC free := by
  obtain ⟨⟨hrc, hrs, hfr, hlo, hws, hcw⟩, hcode, hini, hy, hlen, hl, hstt⟩ := cw
  have hK : vx_Back l R p e below s args y 3 8 (PreOf R mc ms Pc) (PostOf Qc mc ms free) (vx_Post XC mc ms free) := vx_backW (hh := hh) (bytes := bytes) (maxL := maxL) (ret := ret) hM hp.1 hrc hrs hfr hlo hws hcw (fun a' U hW => word_at hW (Or.inl (by first | rfl | simp [Cond.onTables, Cond.keeps, Cond.steady])) hini)
  obtain ⟨hx, hb, hml, ho, -⟩ := S
  intro T hT X
  rcases vx_callSX X hx (hh := hh) (bytes := bytes) (maxL := maxL) (ret := ret) ho hl hstt hini hcode hy hK hg (hsize.trans hml.symm) (argsL := As) (rest := rest) (fun sig h => hn.trans (hlen sig h)) hstack hW (by rw [hb]; exact hdg)
    (fun vm₁ hW₁ => ⟨hf.1, hf.2, hp.2 (T.setVm vm₁) hT hW₁⟩) with ⟨v, vm₁, ⟨U', l2, c2, s2⟩, hW₁, X', ⟨g', mk, t, L, e1, e2, hq, h1, hL, h2, h3⟩, st⟩ | ⟨q, vm₁, ⟨U', l2, c2, s2⟩, hW₁, X', ⟨g', mk, t, L, E, ce, e1, e2, hq, hce, hcv, hcl, h1, hL, h2, h3⟩, st⟩
  · dsimp only [Pt.U, Pt.locs, Pt.cells, Pt.slots] at X' e1 e2 h1 h2 h3 st
    subst h1; subst h2; subst h3
    exact Or.inl ⟨v, (T.setVm vm₁).calling g' mk As.toArray, t, U', L, hT, X', hL, e1, e2, hq, st⟩
  · dsimp only [Pt.U, Pt.locs, Pt.cells, Pt.slots] at X' e1 e2 h1 h2 h3 st hcl
    subst h1; subst h2; subst h3
    exact Or.inr ⟨q, (T.setVm vm₁).calling g' mk As.toArray, t, U', L, E, ce, hT, X', hL, e1, e2, hq, hce, hcv, vx_cls hW₁ hcl, st⟩
end
end VXH
theorem vx_ofWH {l : Launch} {y : MethodName} {ws ws' : List Cond} {rm : Room} {Pc : Array Value → State → Prop} {Qc : Array Value → State → Outcome → State → Prop} {XC : String → State → State → Prop} {mc ms : Nat} {free : Addr → Prop} {cc : ByteArray} {maxL : Nat} {ret : Option FieldType} {hh : List (Nat × Nat × Nat × Nat)}
    (hy : plainName y.cls = true) (hw : ws = Cond.codeWith y cc maxL ret hh :: ws')
    (body : ∀ p e s m args below meth c s₁, BodyLoose p l y (headSpec ws rm) cc maxL ret e s m args below meth c s₁ → c.maxLocals = maxL → Pc args s →
      W p l e (headSpec ws rm).room s m args below meth c s.heap [] 0 0 (vx_MQ below Qc XC args s mc ms free) (entryFrame m args maxL)) : vx_Met l y ws rm Pc Qc XC mc ms free := by
  refine MetFree.of_bodyS (code := cc) (maxLocals := maxL) (ret := ret) hy ?_ ?_
  · intro args s m h hn
    obtain ⟨m9, meth, c, hn9, h1, h2, h3, h4, -, h5, h6, -⟩ := Cond.codeWith_spec (atoms_spec (ws := ws) h _ (by rw [hw]; exact List.mem_cons_self))
    cases hn.symm.trans hn9
    exact ⟨meth, c, h1, h2, h3, h4, h5, h6⟩
  · intro p e s m args below meth c s₁ B hml hP _
    have hh0 : s₁.heap = s.heap := by rw [B.state]; rfl
    obtain ⟨t, a1, o, b1, b2, b3⟩ := body p e s m args below meth c s₁ B hml hP s₁ hh0 (Stand.of_body B)
    exact ⟨t, o, a1, b1, b2, b3⟩
/-! ===== END ===== -/
end
section
/-! ===== BEGIN printed: names, fields, word lists, decode rows ===== -/
def RX0 : String := "GapLines$History"
def TX0 : u_T := fun k => match k with
  | 0 => ("GapLines$History", "states", "[LGapLines$State;", true)
  | 1 => ("GapLines$History", "size", "I", false)
  | _ => ("GapLines$History", "next", "I", false)
def tyX0 : Nat → FieldType := fun k => match k with
  | 0 => .array (.object "GapLines$State")
  | 1 => .int
  | _ => .int
abbrev wsX00 : List Cond := u_ws RX0 TX0 3
theorem nmX0 : ∀ a, a < 3 → ∀ b, b < 3 → a ≠ b → (TX0 a).2.1 ≠ (TX0 b).2.1 := by decide +kernel
theorem tyX0_ok : ∀ k, k < 3 → parseFieldDescriptor (TX0 k).2.2.1 = some (tyX0 k) := by decide +kernel
abbrev cX0_init : ByteArray := prog_2_method_1_code
def yX0_init : MethodName := ⟨RX0, "<init>", "()V"⟩
abbrev cX0_size : ByteArray := prog_2_method_2_code
def yX0_size : MethodName := ⟨RX0, "size", "()I"⟩
abbrev cX0_forgetAll : ByteArray := prog_2_method_3_code
def yX0_forgetAll : MethodName := ⟨RX0, "forgetAll", "()V"⟩
abbrev cX0_remember : ByteArray := prog_2_method_4_code
def yX0_remember : MethodName := ⟨RX0, "remember", "(LGapLines$State;)V"⟩
abbrev cX0_takeBack : ByteArray := prog_2_method_5_code
def yX0_takeBack : MethodName := ⟨RX0, "takeBack", "(LGapLines$State;)Z"⟩
def RX1 : String := "GapLines$Script"
def TX1 : u_T := fun k => match k with
  | _ => ("", "", "", false)
def tyX1 : Nat → FieldType := fun k => match k with
  | _ => .int
abbrev wsX10 : List Cond := u_ws RX1 TX1 0
theorem nmX1 : ∀ a, a < 0 → ∀ b, b < 0 → a ≠ b → (TX1 a).2.1 ≠ (TX1 b).2.1 := by decide +kernel
theorem tyX1_ok : ∀ k, k < 0 → parseFieldDescriptor (TX1 k).2.2.1 = some (tyX1 k) := by decide +kernel
abbrev cX1_succeeds : ByteArray := prog_3_method_2_code
def yX1_succeeds : MethodName := ⟨RX1, "succeeds", "(LGapLines$State;I)Z"⟩
def RX2 : String := "GapLines$Slots"
def TX2 : u_T := fun k => match k with
  | 0 => ("GapLines$Slots", "states", "[LGapLines$State;", true)
  | _ => ("GapLines$Slots", "filled", "[Z", true)
def tyX2 : Nat → FieldType := fun k => match k with
  | 0 => .array (.object "GapLines$State")
  | _ => .array .boolean
abbrev wsX20 : List Cond := u_ws RX2 TX2 2
theorem nmX2 : ∀ a, a < 2 → ∀ b, b < 2 → a ≠ b → (TX2 a).2.1 ≠ (TX2 b).2.1 := by decide +kernel
theorem tyX2_ok : ∀ k, k < 2 → parseFieldDescriptor (TX2 k).2.2.1 = some (tyX2 k) := by decide +kernel
abbrev cX2_init : ByteArray := prog_4_method_1_code
def yX2_init : MethodName := ⟨RX2, "<init>", "()V"⟩
abbrev cX2_has : ByteArray := prog_4_method_2_code
def yX2_has : MethodName := ⟨RX2, "has", "(I)Z"⟩
abbrev cX2_forgetAll : ByteArray := prog_4_method_3_code
def yX2_forgetAll : MethodName := ⟨RX2, "forgetAll", "()V"⟩
abbrev cX2_keep : ByteArray := prog_4_method_4_code
def yX2_keep : MethodName := ⟨RX2, "keep", "(ILGapLines$State;)V"⟩
abbrev cX2_bringBack : ByteArray := prog_4_method_5_code
def yX2_bringBack : MethodName := ⟨RX2, "bringBack", "(ILGapLines$State;)Z"⟩
def RX3 : String := "GapLines$State"
def TX3 : u_T := fun k => match k with
  | 0 => ("GapLines$State", "lines", "I", false)
  | 1 => ("GapLines$State", "key", "I", false)
  | 2 => ("GapLines$State", "start", "I", false)
  | 3 => ("GapLines$State", "gap", "I", false)
  | 4 => ("GapLines$State", "spares", "I", false)
  | 5 => ("GapLines$State", "writes", "I", false)
  | 6 => ("GapLines$State", "moves", "I", false)
  | 7 => ("GapLines$State", "writesSinceMove", "I", false)
  | 8 => ("GapLines$State", "replaced", "I", false)
  | 9 => ("GapLines$State", "laid", "I", false)
  | 10 => ("GapLines$State", "dead", "Z", false)
  | 11 => ("GapLines$State", "endurance", "I", false)
  | 12 => ("GapLines$State", "every", "I", false)
  | 13 => ("GapLines$State", "values", "[I", true)
  | _ => ("GapLines$State", "wears", "[I", true)
def tyX3 : Nat → FieldType := fun k => match k with
  | 0 => .int
  | 1 => .int
  | 2 => .int
  | 3 => .int
  | 4 => .int
  | 5 => .int
  | 6 => .int
  | 7 => .int
  | 8 => .int
  | 9 => .int
  | 10 => .boolean
  | 11 => .int
  | 12 => .int
  | 13 => .array .int
  | _ => .array .int
abbrev wsX30 : List Cond := u_ws RX3 TX3 15
theorem nmX3 : ∀ a, a < 15 → ∀ b, b < 15 → a ≠ b → (TX3 a).2.1 ≠ (TX3 b).2.1 := by decide +kernel
theorem tyX3_ok : ∀ k, k < 15 → parseFieldDescriptor (TX3 k).2.2.1 = some (tyX3 k) := by decide +kernel
abbrev cX3_init : ByteArray := prog_5_method_1_code
def yX3_init : MethodName := ⟨RX3, "<init>", "()V"⟩
abbrev cX3_copyFrom : ByteArray := prog_5_method_2_code
def yX3_copyFrom : MethodName := ⟨RX3, "copyFrom", "(LGapLines$State;)V"⟩
abbrev cX3_beginAnew : ByteArray := prog_5_method_3_code
def yX3_beginAnew : MethodName := ⟨RX3, "beginAnew", "()V"⟩
abbrev cX3_begin : ByteArray := prog_5_method_4_code
def yX3_begin : MethodName := ⟨RX3, "begin", "(III)V"⟩
abbrev cX3_exists : ByteArray := prog_5_method_5_code
def yX3_exists : MethodName := ⟨RX3, "exists", "()Z"⟩
abbrev cX3_hasLine : ByteArray := prog_5_method_6_code
def yX3_hasLine : MethodName := ⟨RX3, "hasLine", "(I)Z"⟩
abbrev cX3_hasPlace : ByteArray := prog_5_method_7_code
def yX3_hasPlace : MethodName := ⟨RX3, "hasPlace", "(I)Z"⟩
abbrev cX3_number : ByteArray := prog_5_method_8_code
def yX3_number : MethodName := ⟨RX3, "number", "(I)I"⟩
abbrev cX3_greatestWear : ByteArray := prog_5_method_9_code
def yX3_greatestWear : MethodName := ⟨RX3, "greatestWear", "()I"⟩
abbrev cX3_leastWear : ByteArray := prog_5_method_10_code
def yX3_leastWear : MethodName := ⟨RX3, "leastWear", "()I"⟩
abbrev cX3_valueOf : ByteArray := prog_5_method_11_code
def yX3_valueOf : MethodName := ⟨RX3, "valueOf", "(I)I"⟩
abbrev cX3_wearOf : ByteArray := prog_5_method_12_code
def yX3_wearOf : MethodName := ⟨RX3, "wearOf", "(I)I"⟩
abbrev cX3_settingOf : ByteArray := prog_5_method_13_code
def yX3_settingOf : MethodName := ⟨RX3, "settingOf", "(I)I"⟩
abbrev cX3_changeSetting : ByteArray := prog_5_method_14_code
def yX3_changeSetting : MethodName := ⟨RX3, "changeSetting", "(II)V"⟩
abbrev cX3_rankOf : ByteArray := prog_5_method_15_code
def yX3_rankOf : MethodName := ⟨RX3, "rankOf", "(II)I"⟩
abbrev cX3_placeOf : ByteArray := prog_5_method_16_code
def yX3_placeOf : MethodName := ⟨RX3, "placeOf", "(I)I"⟩
abbrev cX3_lineAt : ByteArray := prog_5_method_17_code
def yX3_lineAt : MethodName := ⟨RX3, "lineAt", "(I)I"⟩
abbrev cX3_movesUntilMoved : ByteArray := prog_5_method_18_code
def yX3_movesUntilMoved : MethodName := ⟨RX3, "movesUntilMoved", "(I)I"⟩
abbrev cX3_placeAfterMoves : ByteArray := prog_5_method_19_code
def yX3_placeAfterMoves : MethodName := ⟨RX3, "placeAfterMoves", "(II)I"⟩
abbrev cX3_writeLine : ByteArray := prog_5_method_20_code
def yX3_writeLine : MethodName := ⟨RX3, "writeLine", "(II)I"⟩
abbrev cX3_moveGap : ByteArray := prog_5_method_21_code
def yX3_moveGap : MethodName := ⟨RX3, "moveGap", "()V"⟩
abbrev cX3_layAt : ByteArray := prog_5_method_22_code
def yX3_layAt : MethodName := ⟨RX3, "layAt", "(I)V"⟩
abbrev cX3_hammerLine : ByteArray := prog_5_method_23_code
def yX3_hammerLine : MethodName := ⟨RX3, "hammerLine", "(II)I"⟩
abbrev cX3_writeInTurn : ByteArray := prog_5_method_24_code
def yX3_writeInTurn : MethodName := ⟨RX3, "writeInTurn", "(I)I"⟩
abbrev cX3_writeByChance : ByteArray := prog_5_method_25_code
def yX3_writeByChance : MethodName := ⟨RX3, "writeByChance", "(JI)V"⟩
abbrev cX3_doWrite : ByteArray := prog_5_method_26_code
def yX3_doWrite : MethodName := ⟨RX3, "doWrite", "(II)Z"⟩
abbrev cX3_doHammer : ByteArray := prog_5_method_27_code
def yX3_doHammer : MethodName := ⟨RX3, "doHammer", "(II)Z"⟩
abbrev cX3_doAll : ByteArray := prog_5_method_28_code
def yX3_doAll : MethodName := ⟨RX3, "doAll", "(I)Z"⟩
abbrev cX3_doSet : ByteArray := prog_5_method_29_code
def yX3_doSet : MethodName := ⟨RX3, "doSet", "(II)Z"⟩
def RX4 : String := "GapLines$Text"
def TX4 : u_T := fun k => match k with
  | 0 => ("GapLines$Text", "signs", "[C", true)
  | _ => ("GapLines$Text", "length", "I", false)
def tyX4 : Nat → FieldType := fun k => match k with
  | 0 => .array .char
  | _ => .int
abbrev wsX40 : List Cond := u_ws RX4 TX4 2
theorem nmX4 : ∀ a, a < 2 → ∀ b, b < 2 → a ≠ b → (TX4 a).2.1 ≠ (TX4 b).2.1 := by decide +kernel
theorem tyX4_ok : ∀ k, k < 2 → parseFieldDescriptor (TX4 k).2.2.1 = some (tyX4 k) := by decide +kernel
abbrev cX4_init : ByteArray := prog_6_method_1_code
def yX4_init : MethodName := ⟨RX4, "<init>", "()V"⟩
abbrev cX4_isFull : ByteArray := prog_6_method_2_code
def yX4_isFull : MethodName := ⟨RX4, "isFull", "()Z"⟩
abbrev cX4_add : ByteArray := prog_6_method_3_code
def yX4_add : MethodName := ⟨RX4, "add", "(C)I"⟩
abbrev cX4_signAt : ByteArray := prog_6_method_5_code
def yX4_signAt : MethodName := ⟨RX4, "signAt", "(I)C"⟩
abbrev cX4_firstError : ByteArray := prog_6_method_6_code
def yX4_firstError : MethodName := ⟨RX4, "firstError", "()I"⟩
abbrev cX4_errorInHead : ByteArray := prog_6_method_7_code
def yX4_errorInHead : MethodName := ⟨RX4, "errorInHead", "()I"⟩
abbrev cX4_errorInCommand : ByteArray := prog_6_method_8_code
def yX4_errorInCommand : MethodName := ⟨RX4, "errorInCommand", "(I)I"⟩
abbrev cX4_commandLength : ByteArray := prog_6_method_9_code
def yX4_commandLength : MethodName := ⟨RX4, "commandLength", "(I)I"⟩
abbrev cX4_errorInNumber : ByteArray := prog_6_method_10_code
def yX4_errorInNumber : MethodName := ⟨RX4, "errorInNumber", "(IIII)I"⟩
abbrev cX4_numberAt : ByteArray := prog_6_method_11_code
def yX4_numberAt : MethodName := ⟨RX4, "numberAt", "(II)I"⟩
abbrev cX4_tellTo : ByteArray := prog_6_method_12_code
def yX4_tellTo : MethodName := ⟨RX4, "tellTo", "(LGapLines$State;)I"⟩
def RX5 : String := "GapLines"
def TX5 : u_T := fun k => match k with
  | 0 => ("GapLines", "text", "LGapLines$Text;", true)
  | 1 => ("GapLines", "state", "LGapLines$State;", true)
  | 2 => ("GapLines", "copy", "LGapLines$State;", true)
  | 3 => ("GapLines", "history", "LGapLines$History;", true)
  | _ => ("GapLines", "slots", "LGapLines$Slots;", true)
def tyX5 : Nat → FieldType := fun k => match k with
  | 0 => .object "GapLines$Text"
  | 1 => .object "GapLines$State"
  | 2 => .object "GapLines$State"
  | 3 => .object "GapLines$History"
  | _ => .object "GapLines$Slots"
abbrev wsX50 : List Cond := u_ws RX5 TX5 5
theorem nmX5 : ∀ a, a < 5 → ∀ b, b < 5 → a ≠ b → (TX5 a).2.1 ≠ (TX5 b).2.1 := by decide +kernel
theorem tyX5_ok : ∀ k, k < 5 → parseFieldDescriptor (TX5 k).2.2.1 = some (tyX5 k) := by decide +kernel
abbrev cX5_init : ByteArray := prog_1_method_1_code
def yX5_init : MethodName := ⟨RX5, "<init>", "()V"⟩
abbrev cX5_append : ByteArray := prog_1_method_2_code
def yX5_append : MethodName := ⟨RX5, "append", "(I)I"⟩
abbrev cX5_load : ByteArray := prog_1_method_5_code
def yX5_load : MethodName := ⟨RX5, "load", "()I"⟩
abbrev cX5_about : ByteArray := prog_1_method_6_code
def yX5_about : MethodName := ⟨RX5, "about", "(I)I"⟩
abbrev cX5_read : ByteArray := prog_1_method_7_code
def yX5_read : MethodName := ⟨RX5, "read", "(I)I"⟩
abbrev cX5_place : ByteArray := prog_1_method_8_code
def yX5_place : MethodName := ⟨RX5, "place", "(I)I"⟩
abbrev cX5_line : ByteArray := prog_1_method_9_code
def yX5_line : MethodName := ⟨RX5, "line", "(I)I"⟩
abbrev cX5_wear : ByteArray := prog_1_method_10_code
def yX5_wear : MethodName := ⟨RX5, "wear", "(I)I"⟩
abbrev cX5_setting : ByteArray := prog_1_method_11_code
def yX5_setting : MethodName := ⟨RX5, "setting", "(I)I"⟩
abbrev cX5_make : ByteArray := prog_1_method_12_code
def yX5_make : MethodName := ⟨RX5, "make", "(III)I"⟩
abbrev cX5_write : ByteArray := prog_1_method_13_code
def yX5_write : MethodName := ⟨RX5, "write", "(II)I"⟩
abbrev cX5_hammer : ByteArray := prog_1_method_14_code
def yX5_hammer : MethodName := ⟨RX5, "hammer", "(II)I"⟩
abbrev cX5_all : ByteArray := prog_1_method_15_code
def yX5_all : MethodName := ⟨RX5, "all", "(I)I"⟩
abbrev cX5_set : ByteArray := prog_1_method_16_code
def yX5_set : MethodName := ⟨RX5, "set", "(II)I"⟩
abbrev cX5_undo : ByteArray := prog_1_method_17_code
def yX5_undo : MethodName := ⟨RX5, "undo", "()I"⟩
abbrev cX5_life : ByteArray := prog_1_method_18_code
def yX5_life : MethodName := ⟨RX5, "life", "(I)I"⟩
abbrev cX5_lifeOfAll : ByteArray := prog_1_method_19_code
def yX5_lifeOfAll : MethodName := ⟨RX5, "lifeOfAll", "()I"⟩
abbrev cX5_ifEvery : ByteArray := prog_1_method_20_code
def yX5_ifEvery : MethodName := ⟨RX5, "ifEvery", "(III)I"⟩
abbrev cX5_bestEvery : ByteArray := prog_1_method_21_code
def yX5_bestEvery : MethodName := ⟨RX5, "bestEvery", "(II)I"⟩
abbrev cX5_movesTo : ByteArray := prog_1_method_22_code
def yX5_movesTo : MethodName := ⟨RX5, "movesTo", "(I)I"⟩
abbrev cX5_placeBehind : ByteArray := prog_1_method_23_code
def yX5_placeBehind : MethodName := ⟨RX5, "placeBehind", "(II)I"⟩
abbrev cX5_runScript : ByteArray := prog_1_method_24_code
def yX5_runScript : MethodName := ⟨RX5, "runScript", "(IJ)I"⟩
abbrev cX5_simulate : ByteArray := prog_1_method_25_code
def yX5_simulate : MethodName := ⟨RX5, "simulate", "(JI)I"⟩
abbrev cX5_save : ByteArray := prog_1_method_26_code
def yX5_save : MethodName := ⟨RX5, "save", "(I)I"⟩
abbrev cX5_restore : ByteArray := prog_1_method_27_code
def yX5_restore : MethodName := ⟨RX5, "restore", "(I)I"⟩
abbrev cX5_requireLine : ByteArray := prog_1_method_28_code
def yX5_requireLine : MethodName := ⟨RX5, "requireLine", "(I)V"⟩
abbrev cX5_requirePlace : ByteArray := prog_1_method_29_code
def yX5_requirePlace : MethodName := ⟨RX5, "requirePlace", "(I)V"⟩
abbrev cX5_requireStore : ByteArray := prog_1_method_30_code
def yX5_requireStore : MethodName := ⟨RX5, "requireStore", "()V"⟩
abbrev cX5_requireSetting : ByteArray := prog_1_method_31_code
def yX5_requireSetting : MethodName := ⟨RX5, "requireSetting", "(I)V"⟩
abbrev cX5_requireHammered : ByteArray := prog_1_method_32_code
def yX5_requireHammered : MethodName := ⟨RX5, "requireHammered", "(I)V"⟩
abbrev cX5_requireSlot : ByteArray := prog_1_method_33_code
def yX5_requireSlot : MethodName := ⟨RX5, "requireSlot", "(I)V"⟩
abbrev cX5_isShape : ByteArray := prog_1_method_34_code
def yX5_isShape : MethodName := ⟨RX5, "isShape", "(II)Z"⟩
abbrev cX5_haveCommonDivisor : ByteArray := prog_1_method_35_code
def yX5_haveCommonDivisor : MethodName := ⟨RX5, "haveCommonDivisor", "(II)Z"⟩
abbrev cX5_isValue : ByteArray := prog_1_method_36_code
def yX5_isValue : MethodName := ⟨RX5, "isValue", "(I)Z"⟩
abbrev cX5_isHammered : ByteArray := prog_1_method_37_code
def yX5_isHammered : MethodName := ⟨RX5, "isHammered", "(I)Z"⟩
abbrev cX5_isRounds : ByteArray := prog_1_method_38_code
def yX5_isRounds : MethodName := ⟨RX5, "isRounds", "(I)Z"⟩
abbrev cX5_isSettingValue : ByteArray := prog_1_method_39_code
def yX5_isSettingValue : MethodName := ⟨RX5, "isSettingValue", "(II)Z"⟩
abbrev cX5_wearIfEvery : ByteArray := prog_1_method_40_code
def yX5_wearIfEvery : MethodName := ⟨RX5, "wearIfEvery", "(III)I"⟩
abbrev cX5_withoutLastCommands : ByteArray := prog_1_method_41_code
def yX5_withoutLastCommands : MethodName := ⟨RX5, "withoutLastCommands", "(JI)J"⟩
def RX6 : String := "GapLinesModel"
def TX6 : u_T := fun k => match k with
  | _ => ("", "", "", false)
def tyX6 : Nat → FieldType := fun k => match k with
  | _ => .int
abbrev wsX60 : List Cond := u_ws RX6 TX6 0
theorem nmX6 : ∀ a, a < 0 → ∀ b, b < 0 → a ≠ b → (TX6 a).2.1 ≠ (TX6 b).2.1 := by decide +kernel
theorem tyX6_ok : ∀ k, k < 0 → parseFieldDescriptor (TX6 k).2.2.1 = some (tyX6 k) := by decide +kernel
def RJ9 : String := "java/lang/Math"
def TJ9 : u_T := fun k => match k with
  | _ => ("", "", "", false)
def tyJ9 : Nat → FieldType := fun k => match k with
  | _ => .int
abbrev wsJ90 : List Cond := u_ws RJ9 TJ9 0
theorem nmJ9 : ∀ a, a < 0 → ∀ b, b < 0 → a ≠ b → (TJ9 a).2.1 ≠ (TJ9 b).2.1 := by decide +kernel
theorem tyJ9_ok : ∀ k, k < 0 → parseFieldDescriptor (TJ9 k).2.2.1 = some (tyJ9 k) := by decide +kernel
abbrev cJ9_max_7cf53 : ByteArray := prog_13_method_65_code
def yJ9_max_7cf53 : MethodName := ⟨RJ9, "max", "(II)I"⟩
abbrev cJ9_min_7cf53 : ByteArray := prog_13_method_69_code
def yJ9_min_7cf53 : MethodName := ⟨RJ9, "min", "(II)I"⟩
def RJ0 : String := "java/lang/String"
def TJ0 : u_T := fun k => match k with
  | _ => ("", "", "", false)
def tyJ0 : Nat → FieldType := fun k => match k with
  | _ => .int
abbrev wsJ00 : List Cond := u_ws RJ0 TJ0 0
theorem nmJ0 : ∀ a, a < 0 → ∀ b, b < 0 → a ≠ b → (TJ0 a).2.1 ≠ (TJ0 b).2.1 := by decide +kernel
theorem tyJ0_ok : ∀ k, k < 0 → parseFieldDescriptor (TJ0 k).2.2.1 = some (tyJ0 k) := by decide +kernel
def RJ10 : String := "java/lang/System"
def TJ10 : u_T := fun k => match k with
  | _ => ("", "", "", false)
def tyJ10 : Nat → FieldType := fun k => match k with
  | _ => .int
abbrev wsJ100 : List Cond := u_ws RJ10 TJ10 0
theorem nmJ10 : ∀ a, a < 0 → ∀ b, b < 0 → a ≠ b → (TJ10 a).2.1 ≠ (TJ10 b).2.1 := by decide +kernel
theorem tyJ10_ok : ∀ k, k < 0 → parseFieldDescriptor (TJ10 k).2.2.1 = some (tyJ10 k) := by decide +kernel
def RL : String := "GapLinesLaw"
abbrev cL_doScript : ByteArray := method_2_code
def yL_doScript : MethodName := ⟨RL, "doScript", "(LGapLines;IJ)I"⟩
abbrev cL_doSimulate : ByteArray := method_3_code
def yL_doSimulate : MethodName := ⟨RL, "doSimulate", "(LGapLines;JI)I"⟩
abbrev cL_tryAppend : ByteArray := method_4_code
def yL_tryAppend : MethodName := ⟨RL, "tryAppend", "(LGapLines;I)I"⟩
abbrev cL_tryLoad : ByteArray := method_5_code
def yL_tryLoad : MethodName := ⟨RL, "tryLoad", "(LGapLines;)I"⟩
abbrev cL_tryAbout : ByteArray := method_6_code
def yL_tryAbout : MethodName := ⟨RL, "tryAbout", "(LGapLines;I)I"⟩
abbrev cL_tryRead : ByteArray := method_7_code
def yL_tryRead : MethodName := ⟨RL, "tryRead", "(LGapLines;I)I"⟩
abbrev cL_tryPlace : ByteArray := method_8_code
def yL_tryPlace : MethodName := ⟨RL, "tryPlace", "(LGapLines;I)I"⟩
abbrev cL_tryLine : ByteArray := method_9_code
def yL_tryLine : MethodName := ⟨RL, "tryLine", "(LGapLines;I)I"⟩
abbrev cL_tryWear : ByteArray := method_10_code
def yL_tryWear : MethodName := ⟨RL, "tryWear", "(LGapLines;I)I"⟩
abbrev cL_trySetting : ByteArray := method_11_code
def yL_trySetting : MethodName := ⟨RL, "trySetting", "(LGapLines;I)I"⟩
abbrev cL_tryMake : ByteArray := method_12_code
def yL_tryMake : MethodName := ⟨RL, "tryMake", "(LGapLines;III)I"⟩
abbrev cL_tryWrite : ByteArray := method_13_code
def yL_tryWrite : MethodName := ⟨RL, "tryWrite", "(LGapLines;II)I"⟩
abbrev cL_tryHammer : ByteArray := method_14_code
def yL_tryHammer : MethodName := ⟨RL, "tryHammer", "(LGapLines;II)I"⟩
abbrev cL_tryAll : ByteArray := method_15_code
def yL_tryAll : MethodName := ⟨RL, "tryAll", "(LGapLines;I)I"⟩
abbrev cL_tryLay : ByteArray := method_16_code
def yL_tryLay : MethodName := ⟨RL, "tryLay", "(LGapLines;II)I"⟩
abbrev cL_tryUndo : ByteArray := method_17_code
def yL_tryUndo : MethodName := ⟨RL, "tryUndo", "(LGapLines;)I"⟩
abbrev cL_tryLife : ByteArray := method_18_code
def yL_tryLife : MethodName := ⟨RL, "tryLife", "(LGapLines;I)I"⟩
abbrev cL_tryLong : ByteArray := method_19_code
def yL_tryLong : MethodName := ⟨RL, "tryLong", "(LGapLines;)I"⟩
abbrev cL_tryEvery : ByteArray := method_20_code
def yL_tryEvery : MethodName := ⟨RL, "tryEvery", "(LGapLines;III)I"⟩
abbrev cL_tryBest : ByteArray := method_21_code
def yL_tryBest : MethodName := ⟨RL, "tryBest", "(LGapLines;II)I"⟩
abbrev cL_tryMoves : ByteArray := method_22_code
def yL_tryMoves : MethodName := ⟨RL, "tryMoves", "(LGapLines;I)I"⟩
abbrev cL_tryBehind : ByteArray := method_23_code
def yL_tryBehind : MethodName := ⟨RL, "tryBehind", "(LGapLines;II)I"⟩
abbrev cL_tryKeep : ByteArray := method_24_code
def yL_tryKeep : MethodName := ⟨RL, "tryKeep", "(LGapLines;I)I"⟩
abbrev cL_tryBack : ByteArray := method_25_code
def yL_tryBack : MethodName := ⟨RL, "tryBack", "(LGapLines;I)I"⟩
abbrev cL_call : ByteArray := method_26_code
def yL_call : MethodName := ⟨RL, "call", "(LGapLines;IIII)I"⟩
abbrev cL_cell : ByteArray := method_27_code
def yL_cell : MethodName := ⟨RL, "cell", "([II)I"⟩
abbrev cL_thrown : ByteArray := method_28_code
def yL_thrown : MethodName := ⟨RL, "thrown", "(I)Z"⟩
abbrev cL_refuses : ByteArray := method_29_code
def yL_refuses : MethodName := ⟨RL, "refuses", "(LGapLines;I)Z"⟩
abbrev cL_holds : ByteArray := method_30_code
def yL_holds : MethodName := ⟨RL, "holds", "(LGapLines;I)Z"⟩
abbrev cL_act : ByteArray := method_31_code
def yL_act : MethodName := ⟨RL, "act", "(LGapLines;I)I"⟩
abbrev cL_alike : ByteArray := method_32_code
def yL_alike : MethodName := ⟨RL, "alike", "(LGapLines;LGapLines;I)Z"⟩
abbrev cL_law : ByteArray := code
def yL_law : MethodName := ⟨RL, "law", "([I)Z"⟩
def wsX0_init : List Cond := .code yX0_init cX0_init 1 none :: ([.methodLink RX0 1 objectInit, .instanceMethod objectInit, .code objectInit ⟨#[0xb1]⟩ 1 none, .classLink RX0 9 RX3, .fieldLink RX0 11 "GapLines$History" "states" "[LGapLines$State;"] ++ wsX00)
def wsX0_size : List Cond := .code yX0_size cX0_size 1 (some .int) :: ([.fieldLink RX0 15 "GapLines$History" "size" "I"] ++ wsX00)
def wsX0_forgetAll : List Cond := .code yX0_forgetAll cX0_forgetAll 1 none :: ([.fieldLink RX0 15 "GapLines$History" "size" "I"] ++ wsX00)
def wsX3_init : List Cond := .code yX3_init cX3_init 1 none :: ([.methodLink RX3 3 objectInit, .instanceMethod objectInit, .code objectInit ⟨#[0xb1]⟩ 1 none, .fieldLink RX3 9 "GapLines$State" "endurance" "I", .fieldLink RX3 15 "GapLines$State" "every" "I", .arrayClass .int, .fieldLink RX3 18 "GapLines$State" "values" "[I", .fieldLink RX3 22 "GapLines$State" "wears" "[I"] ++ wsX30)
def wsX3_copyFrom : List Cond := .code yX3_copyFrom cX3_copyFrom 2 none :: ([.fieldLink RX3 25 "GapLines$State" "lines" "I", .fieldLink RX3 28 "GapLines$State" "key" "I", .fieldLink RX3 31 "GapLines$State" "start" "I", .fieldLink RX3 34 "GapLines$State" "gap" "I", .fieldLink RX3 37 "GapLines$State" "spares" "I", .fieldLink RX3 40 "GapLines$State" "writes" "I", .fieldLink RX3 43 "GapLines$State" "moves" "I", .fieldLink RX3 46 "GapLines$State" "writesSinceMove" "I", .fieldLink RX3 49 "GapLines$State" "replaced" "I", .fieldLink RX3 52 "GapLines$State" "laid" "I", .fieldLink RX3 55 "GapLines$State" "dead" "Z", .fieldLink RX3 9 "GapLines$State" "endurance" "I", .fieldLink RX3 15 "GapLines$State" "every" "I", .fieldLink RX3 18 "GapLines$State" "values" "[I", .methodLink RX3 59 arraycopyName, .native arraycopyName, .static arraycopyName, .initialized "java/lang/System", .fieldLink RX3 22 "GapLines$State" "wears" "[I"] ++ wsX30)
def wsX0_remember_r1 : List Cond := [Cond.fieldLink RX0 11 "GapLines$History" "states" "[LGapLines$State;", Cond.fieldLink RX0 19 "GapLines$History" "next" "I", Cond.classLink RX0 9 RX3, Cond.instantiable RX3 15, Cond.initialized RX3, Cond.fieldLink RX0 15 "GapLines$History" "size" "I", Cond.methodLink RX0 27 Lib.Math.min.name, Cond.static Lib.Math.min.name, Cond.initialized "java/lang/Math", Cond.code Lib.Math.min.name Lib.Math.min.code 2 (some .int), Cond.instanceMethod yX3_init, Cond.code yX3_init cX3_init 1 none, Cond.methodLink RX3 3 objectInit, Cond.instanceMethod objectInit, Cond.code objectInit ⟨#[0xb1]⟩ 1 none, Cond.fieldLink RX3 9 "GapLines$State" "endurance" "I", Cond.fieldLink RX3 15 "GapLines$State" "every" "I", Cond.arrayClass .int, Cond.fieldLink RX3 18 "GapLines$State" "values" "[I", Cond.fieldLink RX3 22 "GapLines$State" "wears" "[I", Cond.methodLink RX0 23 yX3_copyFrom, Cond.instanceMethod yX3_copyFrom, Cond.selects RX3 yX3_copyFrom yX3_copyFrom, Cond.code yX3_copyFrom cX3_copyFrom 2 none]
def wsX0_remember_r2 : List Cond := [Cond.fieldLink RX3 25 "GapLines$State" "lines" "I", Cond.fieldLink RX3 28 "GapLines$State" "key" "I", Cond.fieldLink RX3 31 "GapLines$State" "start" "I", Cond.fieldLink RX3 34 "GapLines$State" "gap" "I", Cond.fieldLink RX3 37 "GapLines$State" "spares" "I", Cond.fieldLink RX3 40 "GapLines$State" "writes" "I", Cond.fieldLink RX3 43 "GapLines$State" "moves" "I", Cond.fieldLink RX3 46 "GapLines$State" "writesSinceMove" "I", Cond.fieldLink RX3 49 "GapLines$State" "replaced" "I", Cond.fieldLink RX3 52 "GapLines$State" "laid" "I", Cond.fieldLink RX3 55 "GapLines$State" "dead" "Z", Cond.methodLink RX3 59 arraycopyName, Cond.native arraycopyName, Cond.static arraycopyName, Cond.initialized "java/lang/System"]
def wsX0_remember : List Cond := .code yX0_remember cX0_remember 2 none :: ((wsX0_remember_r1 ++ wsX0_remember_r2) ++ wsX00 ++ wsX30)
def wsX0_takeBack_r1 : List Cond := [Cond.fieldLink RX0 19 "GapLines$History" "next" "I", Cond.fieldLink RX0 15 "GapLines$History" "size" "I", Cond.fieldLink RX0 11 "GapLines$History" "states" "[LGapLines$State;", Cond.methodLink RX0 23 yX3_copyFrom, Cond.instanceMethod yX3_copyFrom, Cond.selects RX3 yX3_copyFrom yX3_copyFrom, Cond.initialized RX3, Cond.code yX3_copyFrom cX3_copyFrom 2 none, Cond.fieldLink RX3 25 "GapLines$State" "lines" "I", Cond.fieldLink RX3 28 "GapLines$State" "key" "I", Cond.fieldLink RX3 31 "GapLines$State" "start" "I", Cond.fieldLink RX3 34 "GapLines$State" "gap" "I", Cond.fieldLink RX3 37 "GapLines$State" "spares" "I", Cond.fieldLink RX3 40 "GapLines$State" "writes" "I", Cond.fieldLink RX3 43 "GapLines$State" "moves" "I", Cond.fieldLink RX3 46 "GapLines$State" "writesSinceMove" "I", Cond.fieldLink RX3 49 "GapLines$State" "replaced" "I", Cond.fieldLink RX3 52 "GapLines$State" "laid" "I", Cond.fieldLink RX3 55 "GapLines$State" "dead" "Z", Cond.fieldLink RX3 9 "GapLines$State" "endurance" "I", Cond.fieldLink RX3 15 "GapLines$State" "every" "I", Cond.fieldLink RX3 18 "GapLines$State" "values" "[I", Cond.methodLink RX3 59 arraycopyName, Cond.native arraycopyName]
def wsX0_takeBack_r2 : List Cond := [Cond.static arraycopyName, Cond.initialized "java/lang/System", Cond.fieldLink RX3 22 "GapLines$State" "wears" "[I"]
def wsX0_takeBack : List Cond := .code yX0_takeBack cX0_takeBack 3 (some .boolean) :: ((wsX0_takeBack_r1 ++ wsX0_takeBack_r2) ++ wsX00 ++ wsX30)
def wsX3_hasLine : List Cond := .code yX3_hasLine cX3_hasLine 2 (some .boolean) :: ([.fieldLink RX3 25 "GapLines$State" "lines" "I"] ++ wsX30)
def wsX5_isValue : List Cond := .code yX5_isValue cX5_isValue 1 (some .boolean) :: ([])
def wsX3_rankOf : List Cond := .code yX3_rankOf cX3_rankOf 3 (some .int) :: ([.fieldLink RX3 25 "GapLines$State" "lines" "I", .fieldLink RX3 28 "GapLines$State" "key" "I"] ++ wsX30)
def wsX3_placeOf : List Cond := .code yX3_placeOf cX3_placeOf 3 (some .int) :: ([.fieldLink RX3 31 "GapLines$State" "start" "I", .fieldLink RX3 34 "GapLines$State" "gap" "I", .methodLink RX3 92 yX3_rankOf, .instanceMethod yX3_rankOf, .selects RX3 yX3_rankOf yX3_rankOf, .initialized RX3, .code yX3_rankOf cX3_rankOf 3 (some .int), .fieldLink RX3 25 "GapLines$State" "lines" "I", .fieldLink RX3 28 "GapLines$State" "key" "I"] ++ wsX30)
def wsX3_layAt : List Cond := .code yX3_layAt cX3_layAt 2 none :: ([.fieldLink RX3 25 "GapLines$State" "lines" "I", .fieldLink RX3 22 "GapLines$State" "wears" "[I", .fieldLink RX3 52 "GapLines$State" "laid" "I", .fieldLink RX3 9 "GapLines$State" "endurance" "I", .fieldLink RX3 37 "GapLines$State" "spares" "I", .fieldLink RX3 55 "GapLines$State" "dead" "Z", .fieldLink RX3 49 "GapLines$State" "replaced" "I"] ++ wsX30)
def wsX3_moveGap : List Cond := .code yX3_moveGap cX3_moveGap 1 none :: ([.fieldLink RX3 34 "GapLines$State" "gap" "I", .fieldLink RX3 25 "GapLines$State" "lines" "I", .fieldLink RX3 31 "GapLines$State" "start" "I", .fieldLink RX3 43 "GapLines$State" "moves" "I", .fieldLink RX3 46 "GapLines$State" "writesSinceMove" "I", .methodLink RX3 99 yX3_layAt, .instanceMethod yX3_layAt, .selects RX3 yX3_layAt yX3_layAt, .initialized RX3, .code yX3_layAt cX3_layAt 2 none, .fieldLink RX3 22 "GapLines$State" "wears" "[I", .fieldLink RX3 52 "GapLines$State" "laid" "I", .fieldLink RX3 9 "GapLines$State" "endurance" "I", .fieldLink RX3 37 "GapLines$State" "spares" "I", .fieldLink RX3 55 "GapLines$State" "dead" "Z", .fieldLink RX3 49 "GapLines$State" "replaced" "I"] ++ wsX30)
def wsX3_writeLine_r1 : List Cond := [Cond.fieldLink RX3 18 "GapLines$State" "values" "[I", Cond.fieldLink RX3 40 "GapLines$State" "writes" "I", Cond.fieldLink RX3 46 "GapLines$State" "writesSinceMove" "I", Cond.fieldLink RX3 55 "GapLines$State" "dead" "Z", Cond.fieldLink RX3 15 "GapLines$State" "every" "I", Cond.methodLink RX3 85 yX3_hasLine, Cond.instanceMethod yX3_hasLine, Cond.selects RX3 yX3_hasLine yX3_hasLine, Cond.initialized RX3, Cond.code yX3_hasLine cX3_hasLine 2 (some .boolean), Cond.fieldLink RX3 25 "GapLines$State" "lines" "I", Cond.methodLink RX3 95 yX3_placeOf, Cond.instanceMethod yX3_placeOf, Cond.selects RX3 yX3_placeOf yX3_placeOf, Cond.code yX3_placeOf cX3_placeOf 3 (some .int), Cond.fieldLink RX3 31 "GapLines$State" "start" "I", Cond.fieldLink RX3 34 "GapLines$State" "gap" "I", Cond.methodLink RX3 92 yX3_rankOf, Cond.instanceMethod yX3_rankOf, Cond.selects RX3 yX3_rankOf yX3_rankOf, Cond.code yX3_rankOf cX3_rankOf 3 (some .int), Cond.fieldLink RX3 28 "GapLines$State" "key" "I", Cond.methodLink RX3 99 yX3_layAt, Cond.instanceMethod yX3_layAt]
def wsX3_writeLine_r2 : List Cond := [Cond.selects RX3 yX3_layAt yX3_layAt, Cond.code yX3_layAt cX3_layAt 2 none, Cond.fieldLink RX3 22 "GapLines$State" "wears" "[I", Cond.fieldLink RX3 52 "GapLines$State" "laid" "I", Cond.fieldLink RX3 9 "GapLines$State" "endurance" "I", Cond.fieldLink RX3 37 "GapLines$State" "spares" "I", Cond.fieldLink RX3 49 "GapLines$State" "replaced" "I", Cond.methodLink RX3 103 yX3_moveGap, Cond.instanceMethod yX3_moveGap, Cond.selects RX3 yX3_moveGap yX3_moveGap, Cond.code yX3_moveGap cX3_moveGap 1 none, Cond.fieldLink RX3 43 "GapLines$State" "moves" "I"]
def wsX3_writeLine : List Cond := .code yX3_writeLine cX3_writeLine 4 (some .int) :: ((wsX3_writeLine_r1 ++ wsX3_writeLine_r2) ++ wsX30)
def wsX3_doWrite_r1 : List Cond := [Cond.fieldLink RX3 55 "GapLines$State" "dead" "Z", Cond.methodLink RX3 85 yX3_hasLine, Cond.instanceMethod yX3_hasLine, Cond.selects RX3 yX3_hasLine yX3_hasLine, Cond.initialized RX3, Cond.code yX3_hasLine cX3_hasLine 2 (some .boolean), Cond.fieldLink RX3 25 "GapLines$State" "lines" "I", Cond.static yX5_isValue, Cond.initialized RX5, Cond.code yX5_isValue cX5_isValue 1 (some .boolean), Cond.methodLink RX3 109 yX3_writeLine, Cond.instanceMethod yX3_writeLine, Cond.selects RX3 yX3_writeLine yX3_writeLine, Cond.code yX3_writeLine cX3_writeLine 4 (some .int), Cond.fieldLink RX3 18 "GapLines$State" "values" "[I", Cond.fieldLink RX3 40 "GapLines$State" "writes" "I", Cond.fieldLink RX3 46 "GapLines$State" "writesSinceMove" "I", Cond.fieldLink RX3 15 "GapLines$State" "every" "I", Cond.methodLink RX3 95 yX3_placeOf, Cond.instanceMethod yX3_placeOf, Cond.selects RX3 yX3_placeOf yX3_placeOf, Cond.code yX3_placeOf cX3_placeOf 3 (some .int), Cond.fieldLink RX3 31 "GapLines$State" "start" "I", Cond.fieldLink RX3 34 "GapLines$State" "gap" "I"]
def wsX3_doWrite_r2 : List Cond := [Cond.methodLink RX3 92 yX3_rankOf, Cond.instanceMethod yX3_rankOf, Cond.selects RX3 yX3_rankOf yX3_rankOf, Cond.code yX3_rankOf cX3_rankOf 3 (some .int), Cond.fieldLink RX3 28 "GapLines$State" "key" "I", Cond.methodLink RX3 99 yX3_layAt, Cond.instanceMethod yX3_layAt, Cond.selects RX3 yX3_layAt yX3_layAt, Cond.code yX3_layAt cX3_layAt 2 none, Cond.fieldLink RX3 22 "GapLines$State" "wears" "[I", Cond.fieldLink RX3 52 "GapLines$State" "laid" "I", Cond.fieldLink RX3 9 "GapLines$State" "endurance" "I", Cond.fieldLink RX3 37 "GapLines$State" "spares" "I", Cond.fieldLink RX3 49 "GapLines$State" "replaced" "I", Cond.methodLink RX3 103 yX3_moveGap, Cond.instanceMethod yX3_moveGap, Cond.selects RX3 yX3_moveGap yX3_moveGap, Cond.code yX3_moveGap cX3_moveGap 1 none, Cond.fieldLink RX3 43 "GapLines$State" "moves" "I"]
def wsX3_doWrite : List Cond := .code yX3_doWrite cX3_doWrite 3 (some .boolean) :: ((wsX3_doWrite_r1 ++ wsX3_doWrite_r2) ++ wsX30)
def wsX5_isHammered : List Cond := .code yX5_isHammered cX5_isHammered 1 (some .boolean) :: ([])
def wsX3_valueOf : List Cond := .code yX3_valueOf cX3_valueOf 2 (some .int) :: ([.fieldLink RX3 18 "GapLines$State" "values" "[I", .methodLink RX3 85 yX3_hasLine, .instanceMethod yX3_hasLine, .selects RX3 yX3_hasLine yX3_hasLine, .initialized RX3, .code yX3_hasLine cX3_hasLine 2 (some .boolean), .fieldLink RX3 25 "GapLines$State" "lines" "I"] ++ wsX30)
def wsX3_hammerLine_r1 : List Cond := [Cond.fieldLink RX3 55 "GapLines$State" "dead" "Z", Cond.methodLink RX3 106 yX3_valueOf, Cond.instanceMethod yX3_valueOf, Cond.selects RX3 yX3_valueOf yX3_valueOf, Cond.initialized RX3, Cond.code yX3_valueOf cX3_valueOf 2 (some .int), Cond.fieldLink RX3 18 "GapLines$State" "values" "[I", Cond.methodLink RX3 85 yX3_hasLine, Cond.instanceMethod yX3_hasLine, Cond.selects RX3 yX3_hasLine yX3_hasLine, Cond.code yX3_hasLine cX3_hasLine 2 (some .boolean), Cond.fieldLink RX3 25 "GapLines$State" "lines" "I", Cond.methodLink RX3 109 yX3_writeLine, Cond.instanceMethod yX3_writeLine, Cond.selects RX3 yX3_writeLine yX3_writeLine, Cond.code yX3_writeLine cX3_writeLine 4 (some .int), Cond.fieldLink RX3 40 "GapLines$State" "writes" "I", Cond.fieldLink RX3 46 "GapLines$State" "writesSinceMove" "I", Cond.fieldLink RX3 15 "GapLines$State" "every" "I", Cond.methodLink RX3 95 yX3_placeOf, Cond.instanceMethod yX3_placeOf, Cond.selects RX3 yX3_placeOf yX3_placeOf, Cond.code yX3_placeOf cX3_placeOf 3 (some .int), Cond.fieldLink RX3 31 "GapLines$State" "start" "I"]
def wsX3_hammerLine_r2 : List Cond := [Cond.fieldLink RX3 34 "GapLines$State" "gap" "I", Cond.methodLink RX3 92 yX3_rankOf, Cond.instanceMethod yX3_rankOf, Cond.selects RX3 yX3_rankOf yX3_rankOf, Cond.code yX3_rankOf cX3_rankOf 3 (some .int), Cond.fieldLink RX3 28 "GapLines$State" "key" "I", Cond.methodLink RX3 99 yX3_layAt, Cond.instanceMethod yX3_layAt, Cond.selects RX3 yX3_layAt yX3_layAt, Cond.code yX3_layAt cX3_layAt 2 none, Cond.fieldLink RX3 22 "GapLines$State" "wears" "[I", Cond.fieldLink RX3 52 "GapLines$State" "laid" "I", Cond.fieldLink RX3 9 "GapLines$State" "endurance" "I", Cond.fieldLink RX3 37 "GapLines$State" "spares" "I", Cond.fieldLink RX3 49 "GapLines$State" "replaced" "I", Cond.methodLink RX3 103 yX3_moveGap, Cond.instanceMethod yX3_moveGap, Cond.selects RX3 yX3_moveGap yX3_moveGap, Cond.code yX3_moveGap cX3_moveGap 1 none, Cond.fieldLink RX3 43 "GapLines$State" "moves" "I"]
def wsX3_hammerLine : List Cond := .code yX3_hammerLine cX3_hammerLine 4 (some .int) :: ((wsX3_hammerLine_r1 ++ wsX3_hammerLine_r2) ++ wsX30)
def wsX3_doHammer_r1 : List Cond := [Cond.methodLink RX3 85 yX3_hasLine, Cond.instanceMethod yX3_hasLine, Cond.selects RX3 yX3_hasLine yX3_hasLine, Cond.initialized RX3, Cond.code yX3_hasLine cX3_hasLine 2 (some .boolean), Cond.fieldLink RX3 25 "GapLines$State" "lines" "I", Cond.static yX5_isHammered, Cond.initialized RX5, Cond.code yX5_isHammered cX5_isHammered 1 (some .boolean), Cond.methodLink RX3 126 yX3_hammerLine, Cond.instanceMethod yX3_hammerLine, Cond.selects RX3 yX3_hammerLine yX3_hammerLine, Cond.code yX3_hammerLine cX3_hammerLine 4 (some .int), Cond.fieldLink RX3 55 "GapLines$State" "dead" "Z", Cond.methodLink RX3 106 yX3_valueOf, Cond.instanceMethod yX3_valueOf, Cond.selects RX3 yX3_valueOf yX3_valueOf, Cond.code yX3_valueOf cX3_valueOf 2 (some .int), Cond.fieldLink RX3 18 "GapLines$State" "values" "[I", Cond.methodLink RX3 109 yX3_writeLine, Cond.instanceMethod yX3_writeLine, Cond.selects RX3 yX3_writeLine yX3_writeLine, Cond.code yX3_writeLine cX3_writeLine 4 (some .int), Cond.fieldLink RX3 40 "GapLines$State" "writes" "I"]
def wsX3_doHammer_r2 : List Cond := [Cond.fieldLink RX3 46 "GapLines$State" "writesSinceMove" "I", Cond.fieldLink RX3 15 "GapLines$State" "every" "I", Cond.methodLink RX3 95 yX3_placeOf, Cond.instanceMethod yX3_placeOf, Cond.selects RX3 yX3_placeOf yX3_placeOf, Cond.code yX3_placeOf cX3_placeOf 3 (some .int), Cond.fieldLink RX3 31 "GapLines$State" "start" "I", Cond.fieldLink RX3 34 "GapLines$State" "gap" "I", Cond.methodLink RX3 92 yX3_rankOf, Cond.instanceMethod yX3_rankOf, Cond.selects RX3 yX3_rankOf yX3_rankOf, Cond.code yX3_rankOf cX3_rankOf 3 (some .int), Cond.fieldLink RX3 28 "GapLines$State" "key" "I", Cond.methodLink RX3 99 yX3_layAt, Cond.instanceMethod yX3_layAt, Cond.selects RX3 yX3_layAt yX3_layAt, Cond.code yX3_layAt cX3_layAt 2 none, Cond.fieldLink RX3 22 "GapLines$State" "wears" "[I", Cond.fieldLink RX3 52 "GapLines$State" "laid" "I", Cond.fieldLink RX3 9 "GapLines$State" "endurance" "I", Cond.fieldLink RX3 37 "GapLines$State" "spares" "I", Cond.fieldLink RX3 49 "GapLines$State" "replaced" "I", Cond.methodLink RX3 103 yX3_moveGap, Cond.instanceMethod yX3_moveGap]
def wsX3_doHammer_r3 : List Cond := [Cond.selects RX3 yX3_moveGap yX3_moveGap, Cond.code yX3_moveGap cX3_moveGap 1 none, Cond.fieldLink RX3 43 "GapLines$State" "moves" "I"]
def wsX3_doHammer : List Cond := .code yX3_doHammer cX3_doHammer 3 (some .boolean) :: ((wsX3_doHammer_r1 ++ (wsX3_doHammer_r2 ++ wsX3_doHammer_r3)) ++ wsX30)
def wsX5_isRounds : List Cond := .code yX5_isRounds cX5_isRounds 1 (some .boolean) :: ([])
def wsX3_exists : List Cond := .code yX3_exists cX3_exists 1 (some .boolean) :: ([.fieldLink RX3 25 "GapLines$State" "lines" "I"] ++ wsX30)
def wsX3_writeInTurn_r1 : List Cond := [Cond.fieldLink RX3 55 "GapLines$State" "dead" "Z", Cond.fieldLink RX3 25 "GapLines$State" "lines" "I", Cond.methodLink RX3 106 yX3_valueOf, Cond.instanceMethod yX3_valueOf, Cond.selects RX3 yX3_valueOf yX3_valueOf, Cond.initialized RX3, Cond.code yX3_valueOf cX3_valueOf 2 (some .int), Cond.fieldLink RX3 18 "GapLines$State" "values" "[I", Cond.methodLink RX3 85 yX3_hasLine, Cond.instanceMethod yX3_hasLine, Cond.selects RX3 yX3_hasLine yX3_hasLine, Cond.code yX3_hasLine cX3_hasLine 2 (some .boolean), Cond.methodLink RX3 109 yX3_writeLine, Cond.instanceMethod yX3_writeLine, Cond.selects RX3 yX3_writeLine yX3_writeLine, Cond.code yX3_writeLine cX3_writeLine 4 (some .int), Cond.fieldLink RX3 40 "GapLines$State" "writes" "I", Cond.fieldLink RX3 46 "GapLines$State" "writesSinceMove" "I", Cond.fieldLink RX3 15 "GapLines$State" "every" "I", Cond.methodLink RX3 95 yX3_placeOf, Cond.instanceMethod yX3_placeOf, Cond.selects RX3 yX3_placeOf yX3_placeOf, Cond.code yX3_placeOf cX3_placeOf 3 (some .int), Cond.fieldLink RX3 31 "GapLines$State" "start" "I"]
def wsX3_writeInTurn_r2 : List Cond := [Cond.fieldLink RX3 34 "GapLines$State" "gap" "I", Cond.methodLink RX3 92 yX3_rankOf, Cond.instanceMethod yX3_rankOf, Cond.selects RX3 yX3_rankOf yX3_rankOf, Cond.code yX3_rankOf cX3_rankOf 3 (some .int), Cond.fieldLink RX3 28 "GapLines$State" "key" "I", Cond.methodLink RX3 99 yX3_layAt, Cond.instanceMethod yX3_layAt, Cond.selects RX3 yX3_layAt yX3_layAt, Cond.code yX3_layAt cX3_layAt 2 none, Cond.fieldLink RX3 22 "GapLines$State" "wears" "[I", Cond.fieldLink RX3 52 "GapLines$State" "laid" "I", Cond.fieldLink RX3 9 "GapLines$State" "endurance" "I", Cond.fieldLink RX3 37 "GapLines$State" "spares" "I", Cond.fieldLink RX3 49 "GapLines$State" "replaced" "I", Cond.methodLink RX3 103 yX3_moveGap, Cond.instanceMethod yX3_moveGap, Cond.selects RX3 yX3_moveGap yX3_moveGap, Cond.code yX3_moveGap cX3_moveGap 1 none, Cond.fieldLink RX3 43 "GapLines$State" "moves" "I"]
def wsX3_writeInTurn : List Cond := .code yX3_writeInTurn cX3_writeInTurn 4 (some .int) :: ((wsX3_writeInTurn_r1 ++ wsX3_writeInTurn_r2) ++ wsX30)
def wsX3_doAll_r1 : List Cond := [Cond.fieldLink RX3 25 "GapLines$State" "lines" "I", Cond.static yX5_isRounds, Cond.initialized RX5, Cond.code yX5_isRounds cX5_isRounds 1 (some .boolean), Cond.methodLink RX3 112 yX3_exists, Cond.instanceMethod yX3_exists, Cond.selects RX3 yX3_exists yX3_exists, Cond.initialized RX3, Cond.code yX3_exists cX3_exists 1 (some .boolean), Cond.methodLink RX3 132 yX3_writeInTurn, Cond.instanceMethod yX3_writeInTurn, Cond.selects RX3 yX3_writeInTurn yX3_writeInTurn, Cond.code yX3_writeInTurn cX3_writeInTurn 4 (some .int), Cond.fieldLink RX3 55 "GapLines$State" "dead" "Z", Cond.methodLink RX3 106 yX3_valueOf, Cond.instanceMethod yX3_valueOf, Cond.selects RX3 yX3_valueOf yX3_valueOf, Cond.code yX3_valueOf cX3_valueOf 2 (some .int), Cond.fieldLink RX3 18 "GapLines$State" "values" "[I", Cond.methodLink RX3 85 yX3_hasLine, Cond.instanceMethod yX3_hasLine, Cond.selects RX3 yX3_hasLine yX3_hasLine, Cond.code yX3_hasLine cX3_hasLine 2 (some .boolean), Cond.methodLink RX3 109 yX3_writeLine]
def wsX3_doAll_r2 : List Cond := [Cond.instanceMethod yX3_writeLine, Cond.selects RX3 yX3_writeLine yX3_writeLine, Cond.code yX3_writeLine cX3_writeLine 4 (some .int), Cond.fieldLink RX3 40 "GapLines$State" "writes" "I", Cond.fieldLink RX3 46 "GapLines$State" "writesSinceMove" "I", Cond.fieldLink RX3 15 "GapLines$State" "every" "I", Cond.methodLink RX3 95 yX3_placeOf, Cond.instanceMethod yX3_placeOf, Cond.selects RX3 yX3_placeOf yX3_placeOf, Cond.code yX3_placeOf cX3_placeOf 3 (some .int), Cond.fieldLink RX3 31 "GapLines$State" "start" "I", Cond.fieldLink RX3 34 "GapLines$State" "gap" "I", Cond.methodLink RX3 92 yX3_rankOf, Cond.instanceMethod yX3_rankOf, Cond.selects RX3 yX3_rankOf yX3_rankOf, Cond.code yX3_rankOf cX3_rankOf 3 (some .int), Cond.fieldLink RX3 28 "GapLines$State" "key" "I", Cond.methodLink RX3 99 yX3_layAt, Cond.instanceMethod yX3_layAt, Cond.selects RX3 yX3_layAt yX3_layAt, Cond.code yX3_layAt cX3_layAt 2 none, Cond.fieldLink RX3 22 "GapLines$State" "wears" "[I", Cond.fieldLink RX3 52 "GapLines$State" "laid" "I", Cond.fieldLink RX3 9 "GapLines$State" "endurance" "I"]
def wsX3_doAll_r3 : List Cond := [Cond.fieldLink RX3 37 "GapLines$State" "spares" "I", Cond.fieldLink RX3 49 "GapLines$State" "replaced" "I", Cond.methodLink RX3 103 yX3_moveGap, Cond.instanceMethod yX3_moveGap, Cond.selects RX3 yX3_moveGap yX3_moveGap, Cond.code yX3_moveGap cX3_moveGap 1 none, Cond.fieldLink RX3 43 "GapLines$State" "moves" "I"]
def wsX3_doAll : List Cond := .code yX3_doAll cX3_doAll 2 (some .boolean) :: ((wsX3_doAll_r1 ++ (wsX3_doAll_r2 ++ wsX3_doAll_r3)) ++ wsX30)
def wsX5_isSettingValue : List Cond := .code yX5_isSettingValue cX5_isSettingValue 2 (some .boolean) :: ([])
def wsX3_changeSetting : List Cond := .code yX3_changeSetting cX3_changeSetting 3 none :: ([.fieldLink RX3 9 "GapLines$State" "endurance" "I", .fieldLink RX3 15 "GapLines$State" "every" "I"] ++ wsX30)
def wsX3_doSet : List Cond := .code yX3_doSet cX3_doSet 3 (some .boolean) :: ([.static yX5_isSettingValue, .initialized RX5, .code yX5_isSettingValue cX5_isSettingValue 2 (some .boolean), .methodLink RX3 139 yX3_changeSetting, .instanceMethod yX3_changeSetting, .selects RX3 yX3_changeSetting yX3_changeSetting, .initialized RX3, .code yX3_changeSetting cX3_changeSetting 3 none, .fieldLink RX3 9 "GapLines$State" "endurance" "I", .fieldLink RX3 15 "GapLines$State" "every" "I"] ++ wsX30)
def wsX3_hasPlace : List Cond := .code yX3_hasPlace cX3_hasPlace 2 (some .boolean) :: ([.fieldLink RX3 25 "GapLines$State" "lines" "I"] ++ wsX30)
def wsX3_wearOf : List Cond := .code yX3_wearOf cX3_wearOf 2 (some .int) :: ([.fieldLink RX3 22 "GapLines$State" "wears" "[I", .methodLink RX3 89 yX3_hasPlace, .instanceMethod yX3_hasPlace, .selects RX3 yX3_hasPlace yX3_hasPlace, .initialized RX3, .code yX3_hasPlace cX3_hasPlace 2 (some .boolean), .fieldLink RX3 25 "GapLines$State" "lines" "I"] ++ wsX30)
def wsX1_succeeds_r1 : List Cond := [Cond.constant RX1 7 (100000), Cond.fieldLink RX1 44 "GapLines$State" "dead" "Z", Cond.fieldLink RX1 48 "GapLines$State" "gap" "I", Cond.methodLink RX1 8 yX3_doWrite, Cond.instanceMethod yX3_doWrite, Cond.selects RX3 yX3_doWrite yX3_doWrite, Cond.initialized RX3, Cond.code yX3_doWrite cX3_doWrite 3 (some .boolean), Cond.fieldLink RX3 55 "GapLines$State" "dead" "Z", Cond.methodLink RX3 85 yX3_hasLine, Cond.instanceMethod yX3_hasLine, Cond.selects RX3 yX3_hasLine yX3_hasLine, Cond.code yX3_hasLine cX3_hasLine 2 (some .boolean), Cond.fieldLink RX3 25 "GapLines$State" "lines" "I", Cond.static yX5_isValue, Cond.initialized RX5, Cond.code yX5_isValue cX5_isValue 1 (some .boolean), Cond.methodLink RX3 109 yX3_writeLine, Cond.instanceMethod yX3_writeLine, Cond.selects RX3 yX3_writeLine yX3_writeLine, Cond.code yX3_writeLine cX3_writeLine 4 (some .int), Cond.fieldLink RX3 18 "GapLines$State" "values" "[I", Cond.fieldLink RX3 40 "GapLines$State" "writes" "I", Cond.fieldLink RX3 46 "GapLines$State" "writesSinceMove" "I"]
def wsX1_succeeds_r2 : List Cond := [Cond.fieldLink RX3 15 "GapLines$State" "every" "I", Cond.methodLink RX3 95 yX3_placeOf, Cond.instanceMethod yX3_placeOf, Cond.selects RX3 yX3_placeOf yX3_placeOf, Cond.code yX3_placeOf cX3_placeOf 3 (some .int), Cond.fieldLink RX3 31 "GapLines$State" "start" "I", Cond.fieldLink RX3 34 "GapLines$State" "gap" "I", Cond.methodLink RX3 92 yX3_rankOf, Cond.instanceMethod yX3_rankOf, Cond.selects RX3 yX3_rankOf yX3_rankOf, Cond.code yX3_rankOf cX3_rankOf 3 (some .int), Cond.fieldLink RX3 28 "GapLines$State" "key" "I", Cond.methodLink RX3 99 yX3_layAt, Cond.instanceMethod yX3_layAt, Cond.selects RX3 yX3_layAt yX3_layAt, Cond.code yX3_layAt cX3_layAt 2 none, Cond.fieldLink RX3 22 "GapLines$State" "wears" "[I", Cond.fieldLink RX3 52 "GapLines$State" "laid" "I", Cond.fieldLink RX3 9 "GapLines$State" "endurance" "I", Cond.fieldLink RX3 37 "GapLines$State" "spares" "I", Cond.fieldLink RX3 49 "GapLines$State" "replaced" "I", Cond.methodLink RX3 103 yX3_moveGap, Cond.instanceMethod yX3_moveGap, Cond.selects RX3 yX3_moveGap yX3_moveGap]
def wsX1_succeeds_r3 : List Cond := [Cond.code yX3_moveGap cX3_moveGap 1 none, Cond.fieldLink RX3 43 "GapLines$State" "moves" "I", Cond.methodLink RX1 14 yX3_doHammer, Cond.instanceMethod yX3_doHammer, Cond.selects RX3 yX3_doHammer yX3_doHammer, Cond.code yX3_doHammer cX3_doHammer 3 (some .boolean), Cond.static yX5_isHammered, Cond.code yX5_isHammered cX5_isHammered 1 (some .boolean), Cond.methodLink RX3 126 yX3_hammerLine, Cond.instanceMethod yX3_hammerLine, Cond.selects RX3 yX3_hammerLine yX3_hammerLine, Cond.code yX3_hammerLine cX3_hammerLine 4 (some .int), Cond.methodLink RX3 106 yX3_valueOf, Cond.instanceMethod yX3_valueOf, Cond.selects RX3 yX3_valueOf yX3_valueOf, Cond.code yX3_valueOf cX3_valueOf 2 (some .int), Cond.methodLink RX1 17 yX3_doAll, Cond.instanceMethod yX3_doAll, Cond.selects RX3 yX3_doAll yX3_doAll, Cond.code yX3_doAll cX3_doAll 2 (some .boolean), Cond.static yX5_isRounds, Cond.code yX5_isRounds cX5_isRounds 1 (some .boolean), Cond.methodLink RX3 112 yX3_exists, Cond.instanceMethod yX3_exists]
def wsX1_succeeds_r4 : List Cond := [Cond.selects RX3 yX3_exists yX3_exists, Cond.code yX3_exists cX3_exists 1 (some .boolean), Cond.methodLink RX3 132 yX3_writeInTurn, Cond.instanceMethod yX3_writeInTurn, Cond.selects RX3 yX3_writeInTurn yX3_writeInTurn, Cond.code yX3_writeInTurn cX3_writeInTurn 4 (some .int), Cond.methodLink RX1 21 yX3_doSet, Cond.instanceMethod yX3_doSet, Cond.selects RX3 yX3_doSet yX3_doSet, Cond.code yX3_doSet cX3_doSet 3 (some .boolean), Cond.static yX5_isSettingValue, Cond.code yX5_isSettingValue cX5_isSettingValue 2 (some .boolean), Cond.methodLink RX3 139 yX3_changeSetting, Cond.instanceMethod yX3_changeSetting, Cond.selects RX3 yX3_changeSetting yX3_changeSetting, Cond.code yX3_changeSetting cX3_changeSetting 3 none, Cond.methodLink RX1 24 yX3_hasLine, Cond.methodLink RX1 27 yX3_valueOf, Cond.methodLink RX1 31 yX3_placeOf, Cond.methodLink RX1 34 yX3_hasPlace, Cond.instanceMethod yX3_hasPlace, Cond.selects RX3 yX3_hasPlace yX3_hasPlace, Cond.code yX3_hasPlace cX3_hasPlace 2 (some .boolean), Cond.methodLink RX1 37 yX3_wearOf]
def wsX1_succeeds_r5 : List Cond := [Cond.instanceMethod yX3_wearOf, Cond.selects RX3 yX3_wearOf yX3_wearOf, Cond.code yX3_wearOf cX3_wearOf 2 (some .int), Cond.methodLink RX3 89 yX3_hasPlace, Cond.methodLink RX1 40 yX3_exists]
def wsX1_succeeds : List Cond := .code yX1_succeeds cX1_succeeds 5 (some .boolean) :: ((wsX1_succeeds_r1 ++ (wsX1_succeeds_r2 ++ (wsX1_succeeds_r3 ++ (wsX1_succeeds_r4 ++ wsX1_succeeds_r5)))) ++ wsX30)
def wsX2_init : List Cond := .code yX2_init cX2_init 1 none :: ([.methodLink RX2 1 objectInit, .instanceMethod objectInit, .code objectInit ⟨#[0xb1]⟩ 1 none, .classLink RX2 9 RX3, .fieldLink RX2 11 "GapLines$Slots" "states" "[LGapLines$State;", .arrayClass .boolean, .fieldLink RX2 15 "GapLines$Slots" "filled" "[Z"] ++ wsX20)
def wsX2_has : List Cond := .code yX2_has cX2_has 1 (some .boolean) :: ([])
def wsX2_forgetAll : List Cond := .code yX2_forgetAll cX2_forgetAll 2 none :: ([.fieldLink RX2 15 "GapLines$Slots" "filled" "[Z"] ++ wsX20)
def wsX2_keep_r1 : List Cond := [Cond.fieldLink RX2 11 "GapLines$Slots" "states" "[LGapLines$State;", Cond.classLink RX2 9 RX3, Cond.instantiable RX3 15, Cond.initialized RX3, Cond.fieldLink RX2 15 "GapLines$Slots" "filled" "[Z", Cond.methodLink RX2 19 yX2_has, Cond.static yX2_has, Cond.initialized RX2, Cond.code yX2_has cX2_has 1 (some .boolean), Cond.instanceMethod yX3_init, Cond.code yX3_init cX3_init 1 none, Cond.methodLink RX3 3 objectInit, Cond.instanceMethod objectInit, Cond.code objectInit ⟨#[0xb1]⟩ 1 none, Cond.fieldLink RX3 9 "GapLines$State" "endurance" "I", Cond.fieldLink RX3 15 "GapLines$State" "every" "I", Cond.arrayClass .int, Cond.fieldLink RX3 18 "GapLines$State" "values" "[I", Cond.fieldLink RX3 22 "GapLines$State" "wears" "[I", Cond.methodLink RX2 24 yX3_copyFrom, Cond.instanceMethod yX3_copyFrom, Cond.selects RX3 yX3_copyFrom yX3_copyFrom, Cond.code yX3_copyFrom cX3_copyFrom 2 none, Cond.fieldLink RX3 25 "GapLines$State" "lines" "I"]
def wsX2_keep_r2 : List Cond := [Cond.fieldLink RX3 28 "GapLines$State" "key" "I", Cond.fieldLink RX3 31 "GapLines$State" "start" "I", Cond.fieldLink RX3 34 "GapLines$State" "gap" "I", Cond.fieldLink RX3 37 "GapLines$State" "spares" "I", Cond.fieldLink RX3 40 "GapLines$State" "writes" "I", Cond.fieldLink RX3 43 "GapLines$State" "moves" "I", Cond.fieldLink RX3 46 "GapLines$State" "writesSinceMove" "I", Cond.fieldLink RX3 49 "GapLines$State" "replaced" "I", Cond.fieldLink RX3 52 "GapLines$State" "laid" "I", Cond.fieldLink RX3 55 "GapLines$State" "dead" "Z", Cond.methodLink RX3 59 arraycopyName, Cond.native arraycopyName, Cond.static arraycopyName, Cond.initialized "java/lang/System"]
def wsX2_keep : List Cond := .code yX2_keep cX2_keep 3 none :: ((wsX2_keep_r1 ++ wsX2_keep_r2) ++ wsX20 ++ wsX30)
def wsX2_bringBack_r1 : List Cond := [Cond.fieldLink RX2 15 "GapLines$Slots" "filled" "[Z", Cond.fieldLink RX2 11 "GapLines$Slots" "states" "[LGapLines$State;", Cond.methodLink RX2 19 yX2_has, Cond.static yX2_has, Cond.initialized RX2, Cond.code yX2_has cX2_has 1 (some .boolean), Cond.methodLink RX2 24 yX3_copyFrom, Cond.instanceMethod yX3_copyFrom, Cond.selects RX3 yX3_copyFrom yX3_copyFrom, Cond.initialized RX3, Cond.code yX3_copyFrom cX3_copyFrom 2 none, Cond.fieldLink RX3 25 "GapLines$State" "lines" "I", Cond.fieldLink RX3 28 "GapLines$State" "key" "I", Cond.fieldLink RX3 31 "GapLines$State" "start" "I", Cond.fieldLink RX3 34 "GapLines$State" "gap" "I", Cond.fieldLink RX3 37 "GapLines$State" "spares" "I", Cond.fieldLink RX3 40 "GapLines$State" "writes" "I", Cond.fieldLink RX3 43 "GapLines$State" "moves" "I", Cond.fieldLink RX3 46 "GapLines$State" "writesSinceMove" "I", Cond.fieldLink RX3 49 "GapLines$State" "replaced" "I", Cond.fieldLink RX3 52 "GapLines$State" "laid" "I", Cond.fieldLink RX3 55 "GapLines$State" "dead" "Z", Cond.fieldLink RX3 9 "GapLines$State" "endurance" "I", Cond.fieldLink RX3 15 "GapLines$State" "every" "I"]
def wsX2_bringBack_r2 : List Cond := [Cond.fieldLink RX3 18 "GapLines$State" "values" "[I", Cond.methodLink RX3 59 arraycopyName, Cond.native arraycopyName, Cond.static arraycopyName, Cond.initialized "java/lang/System", Cond.fieldLink RX3 22 "GapLines$State" "wears" "[I"]
def wsX2_bringBack : List Cond := .code yX2_bringBack cX2_bringBack 3 (some .boolean) :: ((wsX2_bringBack_r1 ++ wsX2_bringBack_r2) ++ wsX20 ++ wsX30)
def wsX3_begin : List Cond := .code yX3_begin cX3_begin 5 none :: ([.fieldLink RX3 25 "GapLines$State" "lines" "I", .fieldLink RX3 28 "GapLines$State" "key" "I", .fieldLink RX3 31 "GapLines$State" "start" "I", .fieldLink RX3 34 "GapLines$State" "gap" "I", .fieldLink RX3 37 "GapLines$State" "spares" "I", .fieldLink RX3 40 "GapLines$State" "writes" "I", .fieldLink RX3 43 "GapLines$State" "moves" "I", .fieldLink RX3 46 "GapLines$State" "writesSinceMove" "I", .fieldLink RX3 49 "GapLines$State" "replaced" "I", .fieldLink RX3 52 "GapLines$State" "laid" "I", .fieldLink RX3 55 "GapLines$State" "dead" "Z", .fieldLink RX3 18 "GapLines$State" "values" "[I", .fieldLink RX3 22 "GapLines$State" "wears" "[I"] ++ wsX30)
def wsX3_beginAnew : List Cond := .code yX3_beginAnew cX3_beginAnew 1 none :: ([.fieldLink RX3 9 "GapLines$State" "endurance" "I", .fieldLink RX3 15 "GapLines$State" "every" "I", .methodLink RX3 65 yX3_begin, .instanceMethod yX3_begin, .selects RX3 yX3_begin yX3_begin, .initialized RX3, .code yX3_begin cX3_begin 5 none, .fieldLink RX3 25 "GapLines$State" "lines" "I", .fieldLink RX3 28 "GapLines$State" "key" "I", .fieldLink RX3 31 "GapLines$State" "start" "I", .fieldLink RX3 34 "GapLines$State" "gap" "I", .fieldLink RX3 37 "GapLines$State" "spares" "I", .fieldLink RX3 40 "GapLines$State" "writes" "I", .fieldLink RX3 43 "GapLines$State" "moves" "I", .fieldLink RX3 46 "GapLines$State" "writesSinceMove" "I", .fieldLink RX3 49 "GapLines$State" "replaced" "I", .fieldLink RX3 52 "GapLines$State" "laid" "I", .fieldLink RX3 55 "GapLines$State" "dead" "Z", .fieldLink RX3 18 "GapLines$State" "values" "[I", .fieldLink RX3 22 "GapLines$State" "wears" "[I"] ++ wsX30)
def wsX3_greatestWear : List Cond := .code yX3_greatestWear cX3_greatestWear 3 (some .int) :: ([.fieldLink RX3 22 "GapLines$State" "wears" "[I", .fieldLink RX3 25 "GapLines$State" "lines" "I", .methodLink RX3 76 Lib.Math.max.name, .static Lib.Math.max.name, .initialized "java/lang/Math", .code Lib.Math.max.name Lib.Math.max.code 2 (some .int)] ++ wsX30)
def wsX3_leastWear : List Cond := .code yX3_leastWear cX3_leastWear 3 (some .int) :: ([.fieldLink RX3 22 "GapLines$State" "wears" "[I", .fieldLink RX3 25 "GapLines$State" "lines" "I", .methodLink RX3 82 Lib.Math.min.name, .static Lib.Math.min.name, .initialized "java/lang/Math", .code Lib.Math.min.name Lib.Math.min.code 2 (some .int)] ++ wsX30)
def wsX3_number_r1 : List Cond := [Cond.fieldLink RX3 25 "GapLines$State" "lines" "I", Cond.fieldLink RX3 31 "GapLines$State" "start" "I", Cond.fieldLink RX3 34 "GapLines$State" "gap" "I", Cond.fieldLink RX3 37 "GapLines$State" "spares" "I", Cond.fieldLink RX3 40 "GapLines$State" "writes" "I", Cond.fieldLink RX3 43 "GapLines$State" "moves" "I", Cond.fieldLink RX3 46 "GapLines$State" "writesSinceMove" "I", Cond.fieldLink RX3 55 "GapLines$State" "dead" "Z", Cond.fieldLink RX3 49 "GapLines$State" "replaced" "I", Cond.fieldLink RX3 52 "GapLines$State" "laid" "I", Cond.methodLink RX3 69 yX3_greatestWear, Cond.instanceMethod yX3_greatestWear, Cond.selects RX3 yX3_greatestWear yX3_greatestWear, Cond.initialized RX3, Cond.code yX3_greatestWear cX3_greatestWear 3 (some .int), Cond.fieldLink RX3 22 "GapLines$State" "wears" "[I", Cond.methodLink RX3 76 Lib.Math.max.name, Cond.static Lib.Math.max.name, Cond.initialized "java/lang/Math", Cond.code Lib.Math.max.name Lib.Math.max.code 2 (some .int), Cond.methodLink RX3 73 yX3_leastWear, Cond.instanceMethod yX3_leastWear, Cond.selects RX3 yX3_leastWear yX3_leastWear, Cond.code yX3_leastWear cX3_leastWear 3 (some .int)]
def wsX3_number_r2 : List Cond := [Cond.methodLink RX3 82 Lib.Math.min.name, Cond.static Lib.Math.min.name, Cond.code Lib.Math.min.name Lib.Math.min.code 2 (some .int)]
def wsX3_number : List Cond := .code yX3_number cX3_number 2 (some .int) :: ((wsX3_number_r1 ++ wsX3_number_r2) ++ wsX30)
def wsX3_settingOf : List Cond := .code yX3_settingOf cX3_settingOf 2 (some .int) :: ([.fieldLink RX3 9 "GapLines$State" "endurance" "I", .fieldLink RX3 15 "GapLines$State" "every" "I"] ++ wsX30)
def wsX3_lineAt : List Cond := .code yX3_lineAt cX3_lineAt 4 (some .int) :: ([.fieldLink RX3 34 "GapLines$State" "gap" "I", .fieldLink RX3 25 "GapLines$State" "lines" "I", .fieldLink RX3 31 "GapLines$State" "start" "I", .methodLink RX3 92 yX3_rankOf, .instanceMethod yX3_rankOf, .selects RX3 yX3_rankOf yX3_rankOf, .initialized RX3, .code yX3_rankOf cX3_rankOf 3 (some .int), .fieldLink RX3 28 "GapLines$State" "key" "I"] ++ wsX30)
def wsX3_movesUntilMoved : List Cond := .code yX3_movesUntilMoved cX3_movesUntilMoved 3 (some .int) :: ([.fieldLink RX3 31 "GapLines$State" "start" "I", .fieldLink RX3 34 "GapLines$State" "gap" "I", .fieldLink RX3 25 "GapLines$State" "lines" "I", .methodLink RX3 92 yX3_rankOf, .instanceMethod yX3_rankOf, .selects RX3 yX3_rankOf yX3_rankOf, .initialized RX3, .code yX3_rankOf cX3_rankOf 3 (some .int), .fieldLink RX3 28 "GapLines$State" "key" "I"] ++ wsX30)
def wsX3_placeAfterMoves : List Cond := .code yX3_placeAfterMoves cX3_placeAfterMoves 7 (some .int) :: ([.fieldLink RX3 25 "GapLines$State" "lines" "I", .fieldLink RX3 34 "GapLines$State" "gap" "I", .fieldLink RX3 31 "GapLines$State" "start" "I", .methodLink RX3 85 yX3_hasLine, .instanceMethod yX3_hasLine, .selects RX3 yX3_hasLine yX3_hasLine, .initialized RX3, .code yX3_hasLine cX3_hasLine 2 (some .boolean), .methodLink RX3 92 yX3_rankOf, .instanceMethod yX3_rankOf, .selects RX3 yX3_rankOf yX3_rankOf, .code yX3_rankOf cX3_rankOf 3 (some .int), .fieldLink RX3 28 "GapLines$State" "key" "I"] ++ wsX30)
def wsX3_writeByChance_r1 : List Cond := [Cond.constantLong RX3 116 (6364136223846793005), Cond.constantLong RX3 118 (1442695040888963407), Cond.fieldLink RX3 25 "GapLines$State" "lines" "I", Cond.fieldLink RX3 55 "GapLines$State" "dead" "Z", Cond.methodLink RX3 112 yX3_exists, Cond.instanceMethod yX3_exists, Cond.selects RX3 yX3_exists yX3_exists, Cond.initialized RX3, Cond.code yX3_exists cX3_exists 1 (some .boolean), Cond.methodLink RX3 109 yX3_writeLine, Cond.instanceMethod yX3_writeLine, Cond.selects RX3 yX3_writeLine yX3_writeLine, Cond.code yX3_writeLine cX3_writeLine 4 (some .int), Cond.fieldLink RX3 18 "GapLines$State" "values" "[I", Cond.fieldLink RX3 40 "GapLines$State" "writes" "I", Cond.fieldLink RX3 46 "GapLines$State" "writesSinceMove" "I", Cond.fieldLink RX3 15 "GapLines$State" "every" "I", Cond.methodLink RX3 85 yX3_hasLine, Cond.instanceMethod yX3_hasLine, Cond.selects RX3 yX3_hasLine yX3_hasLine, Cond.code yX3_hasLine cX3_hasLine 2 (some .boolean), Cond.methodLink RX3 95 yX3_placeOf, Cond.instanceMethod yX3_placeOf, Cond.selects RX3 yX3_placeOf yX3_placeOf]
def wsX3_writeByChance_r2 : List Cond := [Cond.code yX3_placeOf cX3_placeOf 3 (some .int), Cond.fieldLink RX3 31 "GapLines$State" "start" "I", Cond.fieldLink RX3 34 "GapLines$State" "gap" "I", Cond.methodLink RX3 92 yX3_rankOf, Cond.instanceMethod yX3_rankOf, Cond.selects RX3 yX3_rankOf yX3_rankOf, Cond.code yX3_rankOf cX3_rankOf 3 (some .int), Cond.fieldLink RX3 28 "GapLines$State" "key" "I", Cond.methodLink RX3 99 yX3_layAt, Cond.instanceMethod yX3_layAt, Cond.selects RX3 yX3_layAt yX3_layAt, Cond.code yX3_layAt cX3_layAt 2 none, Cond.fieldLink RX3 22 "GapLines$State" "wears" "[I", Cond.fieldLink RX3 52 "GapLines$State" "laid" "I", Cond.fieldLink RX3 9 "GapLines$State" "endurance" "I", Cond.fieldLink RX3 37 "GapLines$State" "spares" "I", Cond.fieldLink RX3 49 "GapLines$State" "replaced" "I", Cond.methodLink RX3 103 yX3_moveGap, Cond.instanceMethod yX3_moveGap, Cond.selects RX3 yX3_moveGap yX3_moveGap, Cond.code yX3_moveGap cX3_moveGap 1 none, Cond.fieldLink RX3 43 "GapLines$State" "moves" "I"]
def wsX3_writeByChance : List Cond := .code yX3_writeByChance cX3_writeByChance 9 none :: ((wsX3_writeByChance_r1 ++ wsX3_writeByChance_r2) ++ wsX30)
def wsX4_init : List Cond := .code yX4_init cX4_init 1 none :: ([.methodLink RX4 3 objectInit, .instanceMethod objectInit, .code objectInit ⟨#[0xb1]⟩ 1 none, .arrayClass .char, .fieldLink RX4 11 "GapLines$Text" "signs" "[C"] ++ wsX40)
def wsX4_isFull : List Cond := .code yX4_isFull cX4_isFull 1 (some .boolean) :: ([.fieldLink RX4 15 "GapLines$Text" "length" "I"] ++ wsX40)
def wsX4_add : List Cond := .code yX4_add cX4_add 2 (some .int) :: ([.fieldLink RX4 11 "GapLines$Text" "signs" "[C", .fieldLink RX4 15 "GapLines$Text" "length" "I", .methodLink RX4 19 yX4_isFull, .instanceMethod yX4_isFull, .selects RX4 yX4_isFull yX4_isFull, .initialized RX4, .code yX4_isFull cX4_isFull 1 (some .boolean)] ++ wsX40)
def wsX4_signAt : List Cond := .code yX4_signAt cX4_signAt 2 (some .char) :: ([.fieldLink RX4 15 "GapLines$Text" "length" "I", .fieldLink RX4 11 "GapLines$Text" "signs" "[C"] ++ wsX40)
def wsX4_errorInNumber : List Cond := .code yX4_errorInNumber cX4_errorInNumber 9 (some .int) :: ([.methodLink RX4 34 yX4_signAt, .instanceMethod yX4_signAt, .selects RX4 yX4_signAt yX4_signAt, .initialized RX4, .code yX4_signAt cX4_signAt 2 (some .char), .fieldLink RX4 15 "GapLines$Text" "length" "I", .fieldLink RX4 11 "GapLines$Text" "signs" "[C"] ++ wsX40)
def wsX4_errorInHead : List Cond := .code yX4_errorInHead cX4_errorInHead 2 (some .int) :: ([.methodLink RX4 34 yX4_signAt, .instanceMethod yX4_signAt, .selects RX4 yX4_signAt yX4_signAt, .initialized RX4, .code yX4_signAt cX4_signAt 2 (some .char), .fieldLink RX4 15 "GapLines$Text" "length" "I", .fieldLink RX4 11 "GapLines$Text" "signs" "[C", .methodLink RX4 38 yX4_errorInNumber, .instanceMethod yX4_errorInNumber, .selects RX4 yX4_errorInNumber yX4_errorInNumber, .code yX4_errorInNumber cX4_errorInNumber 9 (some .int)] ++ wsX40)
def wsX4_errorInCommand : List Cond := .code yX4_errorInCommand cX4_errorInCommand 3 (some .int) :: ([.methodLink RX4 34 yX4_signAt, .instanceMethod yX4_signAt, .selects RX4 yX4_signAt yX4_signAt, .initialized RX4, .code yX4_signAt cX4_signAt 2 (some .char), .fieldLink RX4 15 "GapLines$Text" "length" "I", .fieldLink RX4 11 "GapLines$Text" "signs" "[C", .methodLink RX4 38 yX4_errorInNumber, .instanceMethod yX4_errorInNumber, .selects RX4 yX4_errorInNumber yX4_errorInNumber, .code yX4_errorInNumber cX4_errorInNumber 9 (some .int)] ++ wsX40)
def wsX4_commandLength : List Cond := .code yX4_commandLength cX4_commandLength 2 (some .int) :: ([.methodLink RX4 34 yX4_signAt, .instanceMethod yX4_signAt, .selects RX4 yX4_signAt yX4_signAt, .initialized RX4, .code yX4_signAt cX4_signAt 2 (some .char), .fieldLink RX4 15 "GapLines$Text" "length" "I", .fieldLink RX4 11 "GapLines$Text" "signs" "[C"] ++ wsX40)
def wsX4_firstError : List Cond := .code yX4_firstError cX4_firstError 4 (some .int) :: ([.fieldLink RX4 15 "GapLines$Text" "length" "I", .methodLink RX4 23 yX4_errorInHead, .instanceMethod yX4_errorInHead, .selects RX4 yX4_errorInHead yX4_errorInHead, .initialized RX4, .code yX4_errorInHead cX4_errorInHead 2 (some .int), .methodLink RX4 34 yX4_signAt, .instanceMethod yX4_signAt, .selects RX4 yX4_signAt yX4_signAt, .code yX4_signAt cX4_signAt 2 (some .char), .fieldLink RX4 11 "GapLines$Text" "signs" "[C", .methodLink RX4 38 yX4_errorInNumber, .instanceMethod yX4_errorInNumber, .selects RX4 yX4_errorInNumber yX4_errorInNumber, .code yX4_errorInNumber cX4_errorInNumber 9 (some .int), .methodLink RX4 27 yX4_errorInCommand, .instanceMethod yX4_errorInCommand, .selects RX4 yX4_errorInCommand yX4_errorInCommand, .code yX4_errorInCommand cX4_errorInCommand 3 (some .int), .methodLink RX4 31 yX4_commandLength, .instanceMethod yX4_commandLength, .selects RX4 yX4_commandLength yX4_commandLength, .code yX4_commandLength cX4_commandLength 2 (some .int)] ++ wsX40)
def wsX4_numberAt : List Cond := .code yX4_numberAt cX4_numberAt 5 (some .int) :: ([.methodLink RX4 34 yX4_signAt, .instanceMethod yX4_signAt, .selects RX4 yX4_signAt yX4_signAt, .initialized RX4, .code yX4_signAt cX4_signAt 2 (some .char), .fieldLink RX4 15 "GapLines$Text" "length" "I", .fieldLink RX4 11 "GapLines$Text" "signs" "[C"] ++ wsX40)
def wsX5_haveCommonDivisor : List Cond := .code yX5_haveCommonDivisor cX5_haveCommonDivisor 3 (some .boolean) :: ([])
def wsX5_isShape : List Cond := .code yX5_isShape cX5_isShape 2 (some .boolean) :: ([.methodLink RX5 273 yX5_haveCommonDivisor, .static yX5_haveCommonDivisor, .initialized RX5, .code yX5_haveCommonDivisor cX5_haveCommonDivisor 3 (some .boolean)])
def wsX4_tellTo_r1 : List Cond := [Cond.fieldLink RX4 15 "GapLines$Text" "length" "I", Cond.methodLink RX4 42 yX4_numberAt, Cond.instanceMethod yX4_numberAt, Cond.selects RX4 yX4_numberAt yX4_numberAt, Cond.initialized RX4, Cond.code yX4_numberAt cX4_numberAt 5 (some .int), Cond.methodLink RX4 34 yX4_signAt, Cond.instanceMethod yX4_signAt, Cond.selects RX4 yX4_signAt yX4_signAt, Cond.code yX4_signAt cX4_signAt 2 (some .char), Cond.fieldLink RX4 11 "GapLines$Text" "signs" "[C", Cond.static yX5_isShape, Cond.initialized RX5, Cond.code yX5_isShape cX5_isShape 2 (some .boolean), Cond.methodLink RX5 273 yX5_haveCommonDivisor, Cond.static yX5_haveCommonDivisor, Cond.code yX5_haveCommonDivisor cX5_haveCommonDivisor 3 (some .boolean), Cond.methodLink RX4 50 yX3_begin, Cond.instanceMethod yX3_begin, Cond.selects RX3 yX3_begin yX3_begin, Cond.initialized RX3, Cond.code yX3_begin cX3_begin 5 none, Cond.fieldLink RX3 25 "GapLines$State" "lines" "I", Cond.fieldLink RX3 28 "GapLines$State" "key" "I"]
def wsX4_tellTo_r2 : List Cond := [Cond.fieldLink RX3 31 "GapLines$State" "start" "I", Cond.fieldLink RX3 34 "GapLines$State" "gap" "I", Cond.fieldLink RX3 37 "GapLines$State" "spares" "I", Cond.fieldLink RX3 40 "GapLines$State" "writes" "I", Cond.fieldLink RX3 43 "GapLines$State" "moves" "I", Cond.fieldLink RX3 46 "GapLines$State" "writesSinceMove" "I", Cond.fieldLink RX3 49 "GapLines$State" "replaced" "I", Cond.fieldLink RX3 52 "GapLines$State" "laid" "I", Cond.fieldLink RX3 55 "GapLines$State" "dead" "Z", Cond.fieldLink RX3 18 "GapLines$State" "values" "[I", Cond.fieldLink RX3 22 "GapLines$State" "wears" "[I", Cond.methodLink RX4 31 yX4_commandLength, Cond.instanceMethod yX4_commandLength, Cond.selects RX4 yX4_commandLength yX4_commandLength, Cond.code yX4_commandLength cX4_commandLength 2 (some .int), Cond.methodLink RX4 56 yX3_doWrite, Cond.instanceMethod yX3_doWrite, Cond.selects RX3 yX3_doWrite yX3_doWrite, Cond.code yX3_doWrite cX3_doWrite 3 (some .boolean), Cond.methodLink RX3 85 yX3_hasLine, Cond.instanceMethod yX3_hasLine, Cond.selects RX3 yX3_hasLine yX3_hasLine, Cond.code yX3_hasLine cX3_hasLine 2 (some .boolean), Cond.static yX5_isValue]
def wsX4_tellTo_r3 : List Cond := [Cond.code yX5_isValue cX5_isValue 1 (some .boolean), Cond.methodLink RX3 109 yX3_writeLine, Cond.instanceMethod yX3_writeLine, Cond.selects RX3 yX3_writeLine yX3_writeLine, Cond.code yX3_writeLine cX3_writeLine 4 (some .int), Cond.fieldLink RX3 15 "GapLines$State" "every" "I", Cond.methodLink RX3 95 yX3_placeOf, Cond.instanceMethod yX3_placeOf, Cond.selects RX3 yX3_placeOf yX3_placeOf, Cond.code yX3_placeOf cX3_placeOf 3 (some .int), Cond.methodLink RX3 92 yX3_rankOf, Cond.instanceMethod yX3_rankOf, Cond.selects RX3 yX3_rankOf yX3_rankOf, Cond.code yX3_rankOf cX3_rankOf 3 (some .int), Cond.methodLink RX3 99 yX3_layAt, Cond.instanceMethod yX3_layAt, Cond.selects RX3 yX3_layAt yX3_layAt, Cond.code yX3_layAt cX3_layAt 2 none, Cond.fieldLink RX3 9 "GapLines$State" "endurance" "I", Cond.methodLink RX3 103 yX3_moveGap, Cond.instanceMethod yX3_moveGap, Cond.selects RX3 yX3_moveGap yX3_moveGap, Cond.code yX3_moveGap cX3_moveGap 1 none, Cond.methodLink RX4 59 yX3_doHammer]
def wsX4_tellTo_r4 : List Cond := [Cond.instanceMethod yX3_doHammer, Cond.selects RX3 yX3_doHammer yX3_doHammer, Cond.code yX3_doHammer cX3_doHammer 3 (some .boolean), Cond.static yX5_isHammered, Cond.code yX5_isHammered cX5_isHammered 1 (some .boolean), Cond.methodLink RX3 126 yX3_hammerLine, Cond.instanceMethod yX3_hammerLine, Cond.selects RX3 yX3_hammerLine yX3_hammerLine, Cond.code yX3_hammerLine cX3_hammerLine 4 (some .int), Cond.methodLink RX3 106 yX3_valueOf, Cond.instanceMethod yX3_valueOf, Cond.selects RX3 yX3_valueOf yX3_valueOf, Cond.code yX3_valueOf cX3_valueOf 2 (some .int), Cond.methodLink RX4 62 yX3_doAll, Cond.instanceMethod yX3_doAll, Cond.selects RX3 yX3_doAll yX3_doAll, Cond.code yX3_doAll cX3_doAll 2 (some .boolean), Cond.static yX5_isRounds, Cond.code yX5_isRounds cX5_isRounds 1 (some .boolean), Cond.methodLink RX3 112 yX3_exists, Cond.instanceMethod yX3_exists, Cond.selects RX3 yX3_exists yX3_exists, Cond.code yX3_exists cX3_exists 1 (some .boolean), Cond.methodLink RX3 132 yX3_writeInTurn]
def wsX4_tellTo_r5 : List Cond := [Cond.instanceMethod yX3_writeInTurn, Cond.selects RX3 yX3_writeInTurn yX3_writeInTurn, Cond.code yX3_writeInTurn cX3_writeInTurn 4 (some .int)]
def wsX4_tellTo : List Cond := .code yX4_tellTo cX4_tellTo 6 (some .int) :: ((wsX4_tellTo_r1 ++ (wsX4_tellTo_r2 ++ (wsX4_tellTo_r3 ++ (wsX4_tellTo_r4 ++ wsX4_tellTo_r5)))) ++ wsX40 ++ wsX30)
def wsX5_init_r1 : List Cond := [Cond.methodLink RX5 1 objectInit, Cond.instanceMethod objectInit, Cond.code objectInit ⟨#[0xb1]⟩ 1 none, Cond.classLink RX5 7 RX4, Cond.instantiable RX4 2, Cond.initialized RX4, Cond.fieldLink RX5 10 "GapLines" "text" "LGapLines$Text;", Cond.classLink RX5 16 RX3, Cond.instantiable RX3 15, Cond.initialized RX3, Cond.fieldLink RX5 19 "GapLines" "state" "LGapLines$State;", Cond.fieldLink RX5 23 "GapLines" "copy" "LGapLines$State;", Cond.classLink RX5 26 RX0, Cond.instantiable RX0 3, Cond.initialized RX0, Cond.fieldLink RX5 29 "GapLines" "history" "LGapLines$History;", Cond.classLink RX5 33 RX2, Cond.instantiable RX2 2, Cond.initialized RX2, Cond.fieldLink RX5 36 "GapLines" "slots" "LGapLines$Slots;", Cond.instanceMethod yX4_init, Cond.code yX4_init cX4_init 1 none, Cond.methodLink RX4 3 objectInit, Cond.arrayClass .char]
def wsX5_init_r2 : List Cond := [Cond.fieldLink RX4 11 "GapLines$Text" "signs" "[C", Cond.instanceMethod yX3_init, Cond.code yX3_init cX3_init 1 none, Cond.methodLink RX3 3 objectInit, Cond.fieldLink RX3 9 "GapLines$State" "endurance" "I", Cond.fieldLink RX3 15 "GapLines$State" "every" "I", Cond.arrayClass .int, Cond.fieldLink RX3 18 "GapLines$State" "values" "[I", Cond.fieldLink RX3 22 "GapLines$State" "wears" "[I", Cond.instanceMethod yX0_init, Cond.code yX0_init cX0_init 1 none, Cond.methodLink RX0 1 objectInit, Cond.classLink RX0 9 RX3, Cond.fieldLink RX0 11 "GapLines$History" "states" "[LGapLines$State;", Cond.instanceMethod yX2_init, Cond.code yX2_init cX2_init 1 none, Cond.methodLink RX2 1 objectInit, Cond.classLink RX2 9 RX3, Cond.fieldLink RX2 11 "GapLines$Slots" "states" "[LGapLines$State;", Cond.arrayClass .boolean, Cond.fieldLink RX2 15 "GapLines$Slots" "filled" "[Z"]
def wsX5_init : List Cond := .code yX5_init cX5_init 1 none :: ((wsX5_init_r1 ++ wsX5_init_r2) ++ wsX40 ++ wsX50 ++ wsX30 ++ wsX00 ++ wsX20)
def wsX5_append : List Cond := .code yX5_append cX5_append 2 (some .int) :: ([.classLink RX5 40 "java/lang/IllegalArgumentException", .initialized "java/lang/IllegalArgumentException", .classLink RX5 51 "java/lang/IllegalStateException", .initialized "java/lang/IllegalStateException", .fieldLink RX5 10 "GapLines" "text" "LGapLines$Text;", .methodLink RX5 47 yX4_isFull, .instanceMethod yX4_isFull, .selects RX4 yX4_isFull yX4_isFull, .initialized RX4, .code yX4_isFull cX4_isFull 1 (some .boolean), .fieldLink RX4 15 "GapLines$Text" "length" "I", .methodLink RX5 56 yX4_add, .instanceMethod yX4_add, .selects RX4 yX4_add yX4_add, .code yX4_add cX4_add 2 (some .int), .fieldLink RX4 11 "GapLines$Text" "signs" "[C", .methodLink RX4 19 yX4_isFull] ++ wsX50 ++ wsX40 ++ (vx_atS RX5 44 "java/lang/IllegalArgumentException" ["java/lang/RuntimeException", "java/lang/Exception"]).filter goodWord ++ (vx_atS RX5 55 "java/lang/IllegalStateException" ["java/lang/RuntimeException", "java/lang/Exception"]).filter goodWord)
def wsX5_load_r1 : List Cond := [Cond.classLink RX5 51 "java/lang/IllegalStateException", Cond.initialized "java/lang/IllegalStateException", Cond.fieldLink RX5 10 "GapLines" "text" "LGapLines$Text;", Cond.fieldLink RX5 29 "GapLines" "history" "LGapLines$History;", Cond.fieldLink RX5 36 "GapLines" "slots" "LGapLines$Slots;", Cond.fieldLink RX5 19 "GapLines" "state" "LGapLines$State;", Cond.methodLink RX5 64 yX4_firstError, Cond.instanceMethod yX4_firstError, Cond.selects RX4 yX4_firstError yX4_firstError, Cond.initialized RX4, Cond.code yX4_firstError cX4_firstError 4 (some .int), Cond.fieldLink RX4 15 "GapLines$Text" "length" "I", Cond.methodLink RX4 23 yX4_errorInHead, Cond.instanceMethod yX4_errorInHead, Cond.selects RX4 yX4_errorInHead yX4_errorInHead, Cond.code yX4_errorInHead cX4_errorInHead 2 (some .int), Cond.methodLink RX4 34 yX4_signAt, Cond.instanceMethod yX4_signAt, Cond.selects RX4 yX4_signAt yX4_signAt, Cond.code yX4_signAt cX4_signAt 2 (some .char), Cond.fieldLink RX4 11 "GapLines$Text" "signs" "[C", Cond.methodLink RX4 38 yX4_errorInNumber, Cond.instanceMethod yX4_errorInNumber, Cond.selects RX4 yX4_errorInNumber yX4_errorInNumber]
def wsX5_load_r2 : List Cond := [Cond.code yX4_errorInNumber cX4_errorInNumber 9 (some .int), Cond.methodLink RX4 27 yX4_errorInCommand, Cond.instanceMethod yX4_errorInCommand, Cond.selects RX4 yX4_errorInCommand yX4_errorInCommand, Cond.code yX4_errorInCommand cX4_errorInCommand 3 (some .int), Cond.methodLink RX4 31 yX4_commandLength, Cond.instanceMethod yX4_commandLength, Cond.selects RX4 yX4_commandLength yX4_commandLength, Cond.code yX4_commandLength cX4_commandLength 2 (some .int), Cond.methodLink RX5 69 yX0_forgetAll, Cond.instanceMethod yX0_forgetAll, Cond.selects RX0 yX0_forgetAll yX0_forgetAll, Cond.initialized RX0, Cond.code yX0_forgetAll cX0_forgetAll 1 none, Cond.fieldLink RX0 15 "GapLines$History" "size" "I", Cond.methodLink RX5 72 yX2_forgetAll, Cond.instanceMethod yX2_forgetAll, Cond.selects RX2 yX2_forgetAll yX2_forgetAll, Cond.initialized RX2, Cond.code yX2_forgetAll cX2_forgetAll 2 none, Cond.fieldLink RX2 15 "GapLines$Slots" "filled" "[Z", Cond.methodLink RX5 73 yX3_beginAnew, Cond.instanceMethod yX3_beginAnew, Cond.selects RX3 yX3_beginAnew yX3_beginAnew]
def wsX5_load_r3 : List Cond := [Cond.initialized RX3, Cond.code yX3_beginAnew cX3_beginAnew 1 none, Cond.fieldLink RX3 9 "GapLines$State" "endurance" "I", Cond.fieldLink RX3 15 "GapLines$State" "every" "I", Cond.methodLink RX3 65 yX3_begin, Cond.instanceMethod yX3_begin, Cond.selects RX3 yX3_begin yX3_begin, Cond.code yX3_begin cX3_begin 5 none, Cond.fieldLink RX3 25 "GapLines$State" "lines" "I", Cond.fieldLink RX3 28 "GapLines$State" "key" "I", Cond.fieldLink RX3 31 "GapLines$State" "start" "I", Cond.fieldLink RX3 34 "GapLines$State" "gap" "I", Cond.fieldLink RX3 37 "GapLines$State" "spares" "I", Cond.fieldLink RX3 40 "GapLines$State" "writes" "I", Cond.fieldLink RX3 43 "GapLines$State" "moves" "I", Cond.fieldLink RX3 46 "GapLines$State" "writesSinceMove" "I", Cond.fieldLink RX3 49 "GapLines$State" "replaced" "I", Cond.fieldLink RX3 52 "GapLines$State" "laid" "I", Cond.fieldLink RX3 55 "GapLines$State" "dead" "Z", Cond.fieldLink RX3 18 "GapLines$State" "values" "[I", Cond.fieldLink RX3 22 "GapLines$State" "wears" "[I", Cond.methodLink RX5 76 yX4_tellTo, Cond.instanceMethod yX4_tellTo, Cond.selects RX4 yX4_tellTo yX4_tellTo]
def wsX5_load_r4 : List Cond := [Cond.code yX4_tellTo cX4_tellTo 6 (some .int), Cond.methodLink RX4 42 yX4_numberAt, Cond.instanceMethod yX4_numberAt, Cond.selects RX4 yX4_numberAt yX4_numberAt, Cond.code yX4_numberAt cX4_numberAt 5 (some .int), Cond.static yX5_isShape, Cond.initialized RX5, Cond.code yX5_isShape cX5_isShape 2 (some .boolean), Cond.methodLink RX5 273 yX5_haveCommonDivisor, Cond.static yX5_haveCommonDivisor, Cond.code yX5_haveCommonDivisor cX5_haveCommonDivisor 3 (some .boolean), Cond.methodLink RX4 50 yX3_begin, Cond.methodLink RX4 56 yX3_doWrite, Cond.instanceMethod yX3_doWrite, Cond.selects RX3 yX3_doWrite yX3_doWrite, Cond.code yX3_doWrite cX3_doWrite 3 (some .boolean), Cond.methodLink RX3 85 yX3_hasLine, Cond.instanceMethod yX3_hasLine, Cond.selects RX3 yX3_hasLine yX3_hasLine, Cond.code yX3_hasLine cX3_hasLine 2 (some .boolean), Cond.static yX5_isValue, Cond.code yX5_isValue cX5_isValue 1 (some .boolean), Cond.methodLink RX3 109 yX3_writeLine, Cond.instanceMethod yX3_writeLine]
def wsX5_load_r5 : List Cond := [Cond.selects RX3 yX3_writeLine yX3_writeLine, Cond.code yX3_writeLine cX3_writeLine 4 (some .int), Cond.methodLink RX3 95 yX3_placeOf, Cond.instanceMethod yX3_placeOf, Cond.selects RX3 yX3_placeOf yX3_placeOf, Cond.code yX3_placeOf cX3_placeOf 3 (some .int), Cond.methodLink RX3 92 yX3_rankOf, Cond.instanceMethod yX3_rankOf, Cond.selects RX3 yX3_rankOf yX3_rankOf, Cond.code yX3_rankOf cX3_rankOf 3 (some .int), Cond.methodLink RX3 99 yX3_layAt, Cond.instanceMethod yX3_layAt, Cond.selects RX3 yX3_layAt yX3_layAt, Cond.code yX3_layAt cX3_layAt 2 none, Cond.methodLink RX3 103 yX3_moveGap, Cond.instanceMethod yX3_moveGap, Cond.selects RX3 yX3_moveGap yX3_moveGap, Cond.code yX3_moveGap cX3_moveGap 1 none, Cond.methodLink RX4 59 yX3_doHammer, Cond.instanceMethod yX3_doHammer, Cond.selects RX3 yX3_doHammer yX3_doHammer, Cond.code yX3_doHammer cX3_doHammer 3 (some .boolean), Cond.static yX5_isHammered, Cond.code yX5_isHammered cX5_isHammered 1 (some .boolean)]
def wsX5_load_r6 : List Cond := [Cond.methodLink RX3 126 yX3_hammerLine, Cond.instanceMethod yX3_hammerLine, Cond.selects RX3 yX3_hammerLine yX3_hammerLine, Cond.code yX3_hammerLine cX3_hammerLine 4 (some .int), Cond.methodLink RX3 106 yX3_valueOf, Cond.instanceMethod yX3_valueOf, Cond.selects RX3 yX3_valueOf yX3_valueOf, Cond.code yX3_valueOf cX3_valueOf 2 (some .int), Cond.methodLink RX4 62 yX3_doAll, Cond.instanceMethod yX3_doAll, Cond.selects RX3 yX3_doAll yX3_doAll, Cond.code yX3_doAll cX3_doAll 2 (some .boolean), Cond.static yX5_isRounds, Cond.code yX5_isRounds cX5_isRounds 1 (some .boolean), Cond.methodLink RX3 112 yX3_exists, Cond.instanceMethod yX3_exists, Cond.selects RX3 yX3_exists yX3_exists, Cond.code yX3_exists cX3_exists 1 (some .boolean), Cond.methodLink RX3 132 yX3_writeInTurn, Cond.instanceMethod yX3_writeInTurn, Cond.selects RX3 yX3_writeInTurn yX3_writeInTurn, Cond.code yX3_writeInTurn cX3_writeInTurn 4 (some .int)]
def wsX5_load : List Cond := .code yX5_load cX5_load 1 (some .int) :: ((wsX5_load_r1 ++ (wsX5_load_r2 ++ (wsX5_load_r3 ++ (wsX5_load_r4 ++ (wsX5_load_r5 ++ wsX5_load_r6))))) ++ wsX50 ++ wsX40 ++ wsX00 ++ wsX20 ++ wsX30 ++ (vx_atS RX5 55 "java/lang/IllegalStateException" ["java/lang/RuntimeException", "java/lang/Exception"]).filter goodWord)
def wsX5_about_r1 : List Cond := [Cond.classLink RX5 40 "java/lang/IllegalArgumentException", Cond.initialized "java/lang/IllegalArgumentException", Cond.fieldLink RX5 19 "GapLines" "state" "LGapLines$State;", Cond.methodLink RX5 82 yX3_number, Cond.instanceMethod yX3_number, Cond.selects RX3 yX3_number yX3_number, Cond.initialized RX3, Cond.code yX3_number cX3_number 2 (some .int), Cond.fieldLink RX3 25 "GapLines$State" "lines" "I", Cond.fieldLink RX3 31 "GapLines$State" "start" "I", Cond.fieldLink RX3 34 "GapLines$State" "gap" "I", Cond.fieldLink RX3 37 "GapLines$State" "spares" "I", Cond.fieldLink RX3 40 "GapLines$State" "writes" "I", Cond.fieldLink RX3 43 "GapLines$State" "moves" "I", Cond.fieldLink RX3 46 "GapLines$State" "writesSinceMove" "I", Cond.fieldLink RX3 55 "GapLines$State" "dead" "Z", Cond.fieldLink RX3 49 "GapLines$State" "replaced" "I", Cond.fieldLink RX3 52 "GapLines$State" "laid" "I", Cond.methodLink RX3 69 yX3_greatestWear, Cond.instanceMethod yX3_greatestWear, Cond.selects RX3 yX3_greatestWear yX3_greatestWear, Cond.code yX3_greatestWear cX3_greatestWear 3 (some .int), Cond.fieldLink RX3 22 "GapLines$State" "wears" "[I", Cond.methodLink RX3 76 Lib.Math.max.name]
def wsX5_about_r2 : List Cond := [Cond.static Lib.Math.max.name, Cond.initialized "java/lang/Math", Cond.code Lib.Math.max.name Lib.Math.max.code 2 (some .int), Cond.methodLink RX3 73 yX3_leastWear, Cond.instanceMethod yX3_leastWear, Cond.selects RX3 yX3_leastWear yX3_leastWear, Cond.code yX3_leastWear cX3_leastWear 3 (some .int), Cond.methodLink RX3 82 Lib.Math.min.name, Cond.static Lib.Math.min.name, Cond.code Lib.Math.min.name Lib.Math.min.code 2 (some .int)]
def wsX5_about : List Cond := .code yX5_about cX5_about 2 (some .int) :: ((wsX5_about_r1 ++ wsX5_about_r2) ++ wsX50 ++ wsX30 ++ (vx_atS RX5 44 "java/lang/IllegalArgumentException" ["java/lang/RuntimeException", "java/lang/Exception"]).filter goodWord)
def wsX5_requireLine : List Cond := .code yX5_requireLine cX5_requireLine 2 none :: ([.classLink RX5 249 "java/lang/IndexOutOfBoundsException", .initialized "java/lang/IndexOutOfBoundsException", .fieldLink RX5 19 "GapLines" "state" "LGapLines$State;", .methodLink RX5 246 yX3_hasLine, .instanceMethod yX3_hasLine, .selects RX3 yX3_hasLine yX3_hasLine, .initialized RX3, .code yX3_hasLine cX3_hasLine 2 (some .boolean), .fieldLink RX3 25 "GapLines$State" "lines" "I"] ++ wsX50 ++ wsX30 ++ (vx_atS RX5 253 "java/lang/IndexOutOfBoundsException" ["java/lang/RuntimeException", "java/lang/Exception"]).filter goodWord)
def wsX5_read : List Cond := .code yX5_read cX5_read 2 (some .int) :: ([.fieldLink RX5 19 "GapLines" "state" "LGapLines$State;", .methodLink RX5 86 yX5_requireLine, .instanceMethod yX5_requireLine, .selects RX5 yX5_requireLine yX5_requireLine, .initialized RX5, .code yX5_requireLine cX5_requireLine 2 none, .classLink RX5 249 "java/lang/IndexOutOfBoundsException", .initialized "java/lang/IndexOutOfBoundsException", .methodLink RX5 246 yX3_hasLine, .instanceMethod yX3_hasLine, .selects RX3 yX3_hasLine yX3_hasLine, .initialized RX3, .code yX3_hasLine cX3_hasLine 2 (some .boolean), .fieldLink RX3 25 "GapLines$State" "lines" "I", .methodLink RX5 90 yX3_valueOf, .instanceMethod yX3_valueOf, .selects RX3 yX3_valueOf yX3_valueOf, .code yX3_valueOf cX3_valueOf 2 (some .int), .fieldLink RX3 18 "GapLines$State" "values" "[I", .methodLink RX3 85 yX3_hasLine] ++ wsX50 ++ wsX30 ++ (vx_atS RX5 253 "java/lang/IndexOutOfBoundsException" ["java/lang/RuntimeException", "java/lang/Exception"]).filter goodWord)
def wsX5_place_r1 : List Cond := [Cond.fieldLink RX5 19 "GapLines" "state" "LGapLines$State;", Cond.methodLink RX5 86 yX5_requireLine, Cond.instanceMethod yX5_requireLine, Cond.selects RX5 yX5_requireLine yX5_requireLine, Cond.initialized RX5, Cond.code yX5_requireLine cX5_requireLine 2 none, Cond.classLink RX5 249 "java/lang/IndexOutOfBoundsException", Cond.initialized "java/lang/IndexOutOfBoundsException", Cond.methodLink RX5 246 yX3_hasLine, Cond.instanceMethod yX3_hasLine, Cond.selects RX3 yX3_hasLine yX3_hasLine, Cond.initialized RX3, Cond.code yX3_hasLine cX3_hasLine 2 (some .boolean), Cond.fieldLink RX3 25 "GapLines$State" "lines" "I", Cond.methodLink RX5 93 yX3_placeOf, Cond.instanceMethod yX3_placeOf, Cond.selects RX3 yX3_placeOf yX3_placeOf, Cond.code yX3_placeOf cX3_placeOf 3 (some .int), Cond.fieldLink RX3 31 "GapLines$State" "start" "I", Cond.fieldLink RX3 34 "GapLines$State" "gap" "I", Cond.methodLink RX3 92 yX3_rankOf, Cond.instanceMethod yX3_rankOf, Cond.selects RX3 yX3_rankOf yX3_rankOf, Cond.code yX3_rankOf cX3_rankOf 3 (some .int)]
def wsX5_place_r2 : List Cond := [Cond.fieldLink RX3 28 "GapLines$State" "key" "I"]
def wsX5_place : List Cond := .code yX5_place cX5_place 2 (some .int) :: ((wsX5_place_r1 ++ wsX5_place_r2) ++ wsX50 ++ wsX30 ++ (vx_atS RX5 253 "java/lang/IndexOutOfBoundsException" ["java/lang/RuntimeException", "java/lang/Exception"]).filter goodWord)
def wsX5_requirePlace : List Cond := .code yX5_requirePlace cX5_requirePlace 2 none :: ([.classLink RX5 249 "java/lang/IndexOutOfBoundsException", .initialized "java/lang/IndexOutOfBoundsException", .fieldLink RX5 19 "GapLines" "state" "LGapLines$State;", .methodLink RX5 254 yX3_hasPlace, .instanceMethod yX3_hasPlace, .selects RX3 yX3_hasPlace yX3_hasPlace, .initialized RX3, .code yX3_hasPlace cX3_hasPlace 2 (some .boolean), .fieldLink RX3 25 "GapLines$State" "lines" "I"] ++ wsX50 ++ wsX30 ++ (vx_atS RX5 253 "java/lang/IndexOutOfBoundsException" ["java/lang/RuntimeException", "java/lang/Exception"]).filter goodWord)
def wsX5_line_r1 : List Cond := [Cond.fieldLink RX5 19 "GapLines" "state" "LGapLines$State;", Cond.methodLink RX5 96 yX5_requirePlace, Cond.instanceMethod yX5_requirePlace, Cond.selects RX5 yX5_requirePlace yX5_requirePlace, Cond.initialized RX5, Cond.code yX5_requirePlace cX5_requirePlace 2 none, Cond.classLink RX5 249 "java/lang/IndexOutOfBoundsException", Cond.initialized "java/lang/IndexOutOfBoundsException", Cond.methodLink RX5 254 yX3_hasPlace, Cond.instanceMethod yX3_hasPlace, Cond.selects RX3 yX3_hasPlace yX3_hasPlace, Cond.initialized RX3, Cond.code yX3_hasPlace cX3_hasPlace 2 (some .boolean), Cond.fieldLink RX3 25 "GapLines$State" "lines" "I", Cond.methodLink RX5 99 yX3_lineAt, Cond.instanceMethod yX3_lineAt, Cond.selects RX3 yX3_lineAt yX3_lineAt, Cond.code yX3_lineAt cX3_lineAt 4 (some .int), Cond.fieldLink RX3 34 "GapLines$State" "gap" "I", Cond.fieldLink RX3 31 "GapLines$State" "start" "I", Cond.methodLink RX3 92 yX3_rankOf, Cond.instanceMethod yX3_rankOf, Cond.selects RX3 yX3_rankOf yX3_rankOf, Cond.code yX3_rankOf cX3_rankOf 3 (some .int)]
def wsX5_line_r2 : List Cond := [Cond.fieldLink RX3 28 "GapLines$State" "key" "I"]
def wsX5_line : List Cond := .code yX5_line cX5_line 2 (some .int) :: ((wsX5_line_r1 ++ wsX5_line_r2) ++ wsX50 ++ wsX30 ++ (vx_atS RX5 253 "java/lang/IndexOutOfBoundsException" ["java/lang/RuntimeException", "java/lang/Exception"]).filter goodWord)
def wsX5_wear : List Cond := .code yX5_wear cX5_wear 2 (some .int) :: ([.fieldLink RX5 19 "GapLines" "state" "LGapLines$State;", .methodLink RX5 96 yX5_requirePlace, .instanceMethod yX5_requirePlace, .selects RX5 yX5_requirePlace yX5_requirePlace, .initialized RX5, .code yX5_requirePlace cX5_requirePlace 2 none, .classLink RX5 249 "java/lang/IndexOutOfBoundsException", .initialized "java/lang/IndexOutOfBoundsException", .methodLink RX5 254 yX3_hasPlace, .instanceMethod yX3_hasPlace, .selects RX3 yX3_hasPlace yX3_hasPlace, .initialized RX3, .code yX3_hasPlace cX3_hasPlace 2 (some .boolean), .fieldLink RX3 25 "GapLines$State" "lines" "I", .methodLink RX5 102 yX3_wearOf, .instanceMethod yX3_wearOf, .selects RX3 yX3_wearOf yX3_wearOf, .code yX3_wearOf cX3_wearOf 2 (some .int), .fieldLink RX3 22 "GapLines$State" "wears" "[I", .methodLink RX3 89 yX3_hasPlace] ++ wsX50 ++ wsX30 ++ (vx_atS RX5 253 "java/lang/IndexOutOfBoundsException" ["java/lang/RuntimeException", "java/lang/Exception"]).filter goodWord)
def wsX5_requireSetting : List Cond := .code yX5_requireSetting cX5_requireSetting 1 none :: ([.classLink RX5 40 "java/lang/IllegalArgumentException", .initialized "java/lang/IllegalArgumentException"] ++ (vx_atS RX5 44 "java/lang/IllegalArgumentException" ["java/lang/RuntimeException", "java/lang/Exception"]).filter goodWord)
def wsX5_setting : List Cond := .code yX5_setting cX5_setting 2 (some .int) :: ([.fieldLink RX5 19 "GapLines" "state" "LGapLines$State;", .methodLink RX5 105 yX5_requireSetting, .static yX5_requireSetting, .initialized RX5, .code yX5_requireSetting cX5_requireSetting 1 none, .classLink RX5 40 "java/lang/IllegalArgumentException", .initialized "java/lang/IllegalArgumentException", .methodLink RX5 108 yX3_settingOf, .instanceMethod yX3_settingOf, .selects RX3 yX3_settingOf yX3_settingOf, .initialized RX3, .code yX3_settingOf cX3_settingOf 2 (some .int), .fieldLink RX3 9 "GapLines$State" "endurance" "I", .fieldLink RX3 15 "GapLines$State" "every" "I"] ++ wsX50 ++ wsX30 ++ (vx_atS RX5 44 "java/lang/IllegalArgumentException" ["java/lang/RuntimeException", "java/lang/Exception"]).filter goodWord)
def wsX5_make_r1 : List Cond := [Cond.classLink RX5 40 "java/lang/IllegalArgumentException", Cond.initialized "java/lang/IllegalArgumentException", Cond.fieldLink RX5 29 "GapLines" "history" "LGapLines$History;", Cond.fieldLink RX5 19 "GapLines" "state" "LGapLines$State;", Cond.methodLink RX5 111 yX5_isShape, Cond.static yX5_isShape, Cond.initialized RX5, Cond.code yX5_isShape cX5_isShape 2 (some .boolean), Cond.methodLink RX5 273 yX5_haveCommonDivisor, Cond.static yX5_haveCommonDivisor, Cond.code yX5_haveCommonDivisor cX5_haveCommonDivisor 3 (some .boolean), Cond.methodLink RX5 119 yX0_remember, Cond.instanceMethod yX0_remember, Cond.selects RX0 yX0_remember yX0_remember, Cond.initialized RX0, Cond.code yX0_remember cX0_remember 2 none, Cond.fieldLink RX0 11 "GapLines$History" "states" "[LGapLines$State;", Cond.fieldLink RX0 19 "GapLines$History" "next" "I", Cond.classLink RX0 9 RX3, Cond.instantiable RX3 15, Cond.initialized RX3, Cond.fieldLink RX0 15 "GapLines$History" "size" "I", Cond.methodLink RX0 27 Lib.Math.min.name, Cond.static Lib.Math.min.name]
def wsX5_make_r2 : List Cond := [Cond.initialized "java/lang/Math", Cond.code Lib.Math.min.name Lib.Math.min.code 2 (some .int), Cond.instanceMethod yX3_init, Cond.code yX3_init cX3_init 1 none, Cond.methodLink RX3 3 objectInit, Cond.instanceMethod objectInit, Cond.code objectInit ⟨#[0xb1]⟩ 1 none, Cond.fieldLink RX3 9 "GapLines$State" "endurance" "I", Cond.fieldLink RX3 15 "GapLines$State" "every" "I", Cond.arrayClass .int, Cond.fieldLink RX3 18 "GapLines$State" "values" "[I", Cond.fieldLink RX3 22 "GapLines$State" "wears" "[I", Cond.methodLink RX0 23 yX3_copyFrom, Cond.instanceMethod yX3_copyFrom, Cond.selects RX3 yX3_copyFrom yX3_copyFrom, Cond.code yX3_copyFrom cX3_copyFrom 2 none, Cond.fieldLink RX3 25 "GapLines$State" "lines" "I", Cond.fieldLink RX3 28 "GapLines$State" "key" "I", Cond.fieldLink RX3 31 "GapLines$State" "start" "I", Cond.fieldLink RX3 34 "GapLines$State" "gap" "I", Cond.fieldLink RX3 37 "GapLines$State" "spares" "I", Cond.fieldLink RX3 40 "GapLines$State" "writes" "I", Cond.fieldLink RX3 43 "GapLines$State" "moves" "I", Cond.fieldLink RX3 46 "GapLines$State" "writesSinceMove" "I"]
def wsX5_make_r3 : List Cond := [Cond.fieldLink RX3 49 "GapLines$State" "replaced" "I", Cond.fieldLink RX3 52 "GapLines$State" "laid" "I", Cond.fieldLink RX3 55 "GapLines$State" "dead" "Z", Cond.methodLink RX3 59 arraycopyName, Cond.native arraycopyName, Cond.static arraycopyName, Cond.initialized "java/lang/System", Cond.methodLink RX5 123 yX3_begin, Cond.instanceMethod yX3_begin, Cond.selects RX3 yX3_begin yX3_begin, Cond.code yX3_begin cX3_begin 5 none, Cond.methodLink RX5 93 yX3_placeOf, Cond.instanceMethod yX3_placeOf, Cond.selects RX3 yX3_placeOf yX3_placeOf, Cond.code yX3_placeOf cX3_placeOf 3 (some .int), Cond.methodLink RX3 92 yX3_rankOf, Cond.instanceMethod yX3_rankOf, Cond.selects RX3 yX3_rankOf yX3_rankOf, Cond.code yX3_rankOf cX3_rankOf 3 (some .int)]
def wsX5_make : List Cond := .code yX5_make cX5_make 4 (some .int) :: ((wsX5_make_r1 ++ (wsX5_make_r2 ++ wsX5_make_r3)) ++ wsX50 ++ wsX00 ++ wsX30 ++ (vx_atS RX5 44 "java/lang/IllegalArgumentException" ["java/lang/RuntimeException", "java/lang/Exception"]).filter goodWord)
def wsX5_write_r1 : List Cond := [Cond.classLink RX5 40 "java/lang/IllegalArgumentException", Cond.initialized "java/lang/IllegalArgumentException", Cond.classLink RX5 51 "java/lang/IllegalStateException", Cond.initialized "java/lang/IllegalStateException", Cond.fieldLink RX5 19 "GapLines" "state" "LGapLines$State;", Cond.fieldLink RX5 133 "GapLines$State" "dead" "Z", Cond.fieldLink RX5 29 "GapLines" "history" "LGapLines$History;", Cond.methodLink RX5 86 yX5_requireLine, Cond.instanceMethod yX5_requireLine, Cond.selects RX5 yX5_requireLine yX5_requireLine, Cond.initialized RX5, Cond.code yX5_requireLine cX5_requireLine 2 none, Cond.classLink RX5 249 "java/lang/IndexOutOfBoundsException", Cond.initialized "java/lang/IndexOutOfBoundsException", Cond.methodLink RX5 246 yX3_hasLine, Cond.instanceMethod yX3_hasLine, Cond.selects RX3 yX3_hasLine yX3_hasLine, Cond.initialized RX3, Cond.code yX3_hasLine cX3_hasLine 2 (some .boolean), Cond.fieldLink RX3 25 "GapLines$State" "lines" "I", Cond.methodLink RX5 127 yX5_isValue, Cond.static yX5_isValue, Cond.code yX5_isValue cX5_isValue 1 (some .boolean), Cond.methodLink RX5 119 yX0_remember]
def wsX5_write_r2 : List Cond := [Cond.instanceMethod yX0_remember, Cond.selects RX0 yX0_remember yX0_remember, Cond.initialized RX0, Cond.code yX0_remember cX0_remember 2 none, Cond.fieldLink RX0 11 "GapLines$History" "states" "[LGapLines$State;", Cond.fieldLink RX0 19 "GapLines$History" "next" "I", Cond.classLink RX0 9 RX3, Cond.instantiable RX3 15, Cond.fieldLink RX0 15 "GapLines$History" "size" "I", Cond.methodLink RX0 27 Lib.Math.min.name, Cond.static Lib.Math.min.name, Cond.initialized "java/lang/Math", Cond.code Lib.Math.min.name Lib.Math.min.code 2 (some .int), Cond.instanceMethod yX3_init, Cond.code yX3_init cX3_init 1 none, Cond.methodLink RX3 3 objectInit, Cond.instanceMethod objectInit, Cond.code objectInit ⟨#[0xb1]⟩ 1 none, Cond.fieldLink RX3 9 "GapLines$State" "endurance" "I", Cond.fieldLink RX3 15 "GapLines$State" "every" "I", Cond.arrayClass .int, Cond.fieldLink RX3 18 "GapLines$State" "values" "[I", Cond.fieldLink RX3 22 "GapLines$State" "wears" "[I", Cond.methodLink RX0 23 yX3_copyFrom]
def wsX5_write_r3 : List Cond := [Cond.instanceMethod yX3_copyFrom, Cond.selects RX3 yX3_copyFrom yX3_copyFrom, Cond.code yX3_copyFrom cX3_copyFrom 2 none, Cond.fieldLink RX3 28 "GapLines$State" "key" "I", Cond.fieldLink RX3 31 "GapLines$State" "start" "I", Cond.fieldLink RX3 34 "GapLines$State" "gap" "I", Cond.fieldLink RX3 37 "GapLines$State" "spares" "I", Cond.fieldLink RX3 40 "GapLines$State" "writes" "I", Cond.fieldLink RX3 43 "GapLines$State" "moves" "I", Cond.fieldLink RX3 46 "GapLines$State" "writesSinceMove" "I", Cond.fieldLink RX3 49 "GapLines$State" "replaced" "I", Cond.fieldLink RX3 52 "GapLines$State" "laid" "I", Cond.fieldLink RX3 55 "GapLines$State" "dead" "Z", Cond.methodLink RX3 59 arraycopyName, Cond.native arraycopyName, Cond.static arraycopyName, Cond.initialized "java/lang/System", Cond.methodLink RX5 139 yX3_writeLine, Cond.instanceMethod yX3_writeLine, Cond.selects RX3 yX3_writeLine yX3_writeLine, Cond.code yX3_writeLine cX3_writeLine 4 (some .int), Cond.methodLink RX3 85 yX3_hasLine, Cond.methodLink RX3 95 yX3_placeOf, Cond.instanceMethod yX3_placeOf]
def wsX5_write_r4 : List Cond := [Cond.selects RX3 yX3_placeOf yX3_placeOf, Cond.code yX3_placeOf cX3_placeOf 3 (some .int), Cond.methodLink RX3 92 yX3_rankOf, Cond.instanceMethod yX3_rankOf, Cond.selects RX3 yX3_rankOf yX3_rankOf, Cond.code yX3_rankOf cX3_rankOf 3 (some .int), Cond.methodLink RX3 99 yX3_layAt, Cond.instanceMethod yX3_layAt, Cond.selects RX3 yX3_layAt yX3_layAt, Cond.code yX3_layAt cX3_layAt 2 none, Cond.methodLink RX3 103 yX3_moveGap, Cond.instanceMethod yX3_moveGap, Cond.selects RX3 yX3_moveGap yX3_moveGap, Cond.code yX3_moveGap cX3_moveGap 1 none]
def wsX5_write : List Cond := .code yX5_write cX5_write 3 (some .int) :: ((wsX5_write_r1 ++ (wsX5_write_r2 ++ (wsX5_write_r3 ++ wsX5_write_r4))) ++ wsX50 ++ wsX30 ++ wsX00 ++ (vx_atS RX5 44 "java/lang/IllegalArgumentException" ["java/lang/RuntimeException", "java/lang/Exception"]).filter goodWord ++ (vx_atS RX5 55 "java/lang/IllegalStateException" ["java/lang/RuntimeException", "java/lang/Exception"]).filter goodWord ++ (vx_atS RX5 253 "java/lang/IndexOutOfBoundsException" ["java/lang/RuntimeException", "java/lang/Exception"]).filter goodWord)
def wsX5_requireHammered : List Cond := .code yX5_requireHammered cX5_requireHammered 1 none :: ([.classLink RX5 40 "java/lang/IllegalArgumentException", .initialized "java/lang/IllegalArgumentException", .methodLink RX5 263 yX5_isHammered, .static yX5_isHammered, .initialized RX5, .code yX5_isHammered cX5_isHammered 1 (some .boolean)] ++ (vx_atS RX5 44 "java/lang/IllegalArgumentException" ["java/lang/RuntimeException", "java/lang/Exception"]).filter goodWord)
def wsX5_hammer_r1 : List Cond := [Cond.fieldLink RX5 29 "GapLines" "history" "LGapLines$History;", Cond.fieldLink RX5 19 "GapLines" "state" "LGapLines$State;", Cond.methodLink RX5 86 yX5_requireLine, Cond.instanceMethod yX5_requireLine, Cond.selects RX5 yX5_requireLine yX5_requireLine, Cond.initialized RX5, Cond.code yX5_requireLine cX5_requireLine 2 none, Cond.classLink RX5 249 "java/lang/IndexOutOfBoundsException", Cond.initialized "java/lang/IndexOutOfBoundsException", Cond.methodLink RX5 246 yX3_hasLine, Cond.instanceMethod yX3_hasLine, Cond.selects RX3 yX3_hasLine yX3_hasLine, Cond.initialized RX3, Cond.code yX3_hasLine cX3_hasLine 2 (some .boolean), Cond.fieldLink RX3 25 "GapLines$State" "lines" "I", Cond.methodLink RX5 143 yX5_requireHammered, Cond.static yX5_requireHammered, Cond.code yX5_requireHammered cX5_requireHammered 1 none, Cond.classLink RX5 40 "java/lang/IllegalArgumentException", Cond.initialized "java/lang/IllegalArgumentException", Cond.methodLink RX5 263 yX5_isHammered, Cond.static yX5_isHammered, Cond.code yX5_isHammered cX5_isHammered 1 (some .boolean), Cond.methodLink RX5 119 yX0_remember]
def wsX5_hammer_r2 : List Cond := [Cond.instanceMethod yX0_remember, Cond.selects RX0 yX0_remember yX0_remember, Cond.initialized RX0, Cond.code yX0_remember cX0_remember 2 none, Cond.fieldLink RX0 11 "GapLines$History" "states" "[LGapLines$State;", Cond.fieldLink RX0 19 "GapLines$History" "next" "I", Cond.classLink RX0 9 RX3, Cond.instantiable RX3 15, Cond.fieldLink RX0 15 "GapLines$History" "size" "I", Cond.methodLink RX0 27 Lib.Math.min.name, Cond.static Lib.Math.min.name, Cond.initialized "java/lang/Math", Cond.code Lib.Math.min.name Lib.Math.min.code 2 (some .int), Cond.instanceMethod yX3_init, Cond.code yX3_init cX3_init 1 none, Cond.methodLink RX3 3 objectInit, Cond.instanceMethod objectInit, Cond.code objectInit ⟨#[0xb1]⟩ 1 none, Cond.fieldLink RX3 9 "GapLines$State" "endurance" "I", Cond.fieldLink RX3 15 "GapLines$State" "every" "I", Cond.arrayClass .int, Cond.fieldLink RX3 18 "GapLines$State" "values" "[I", Cond.fieldLink RX3 22 "GapLines$State" "wears" "[I", Cond.methodLink RX0 23 yX3_copyFrom]
def wsX5_hammer_r3 : List Cond := [Cond.instanceMethod yX3_copyFrom, Cond.selects RX3 yX3_copyFrom yX3_copyFrom, Cond.code yX3_copyFrom cX3_copyFrom 2 none, Cond.fieldLink RX3 28 "GapLines$State" "key" "I", Cond.fieldLink RX3 31 "GapLines$State" "start" "I", Cond.fieldLink RX3 34 "GapLines$State" "gap" "I", Cond.fieldLink RX3 37 "GapLines$State" "spares" "I", Cond.fieldLink RX3 40 "GapLines$State" "writes" "I", Cond.fieldLink RX3 43 "GapLines$State" "moves" "I", Cond.fieldLink RX3 46 "GapLines$State" "writesSinceMove" "I", Cond.fieldLink RX3 49 "GapLines$State" "replaced" "I", Cond.fieldLink RX3 52 "GapLines$State" "laid" "I", Cond.fieldLink RX3 55 "GapLines$State" "dead" "Z", Cond.methodLink RX3 59 arraycopyName, Cond.native arraycopyName, Cond.static arraycopyName, Cond.initialized "java/lang/System", Cond.methodLink RX5 146 yX3_hammerLine, Cond.instanceMethod yX3_hammerLine, Cond.selects RX3 yX3_hammerLine yX3_hammerLine, Cond.code yX3_hammerLine cX3_hammerLine 4 (some .int), Cond.methodLink RX3 106 yX3_valueOf, Cond.instanceMethod yX3_valueOf, Cond.selects RX3 yX3_valueOf yX3_valueOf]
def wsX5_hammer_r4 : List Cond := [Cond.code yX3_valueOf cX3_valueOf 2 (some .int), Cond.methodLink RX3 85 yX3_hasLine, Cond.methodLink RX3 109 yX3_writeLine, Cond.instanceMethod yX3_writeLine, Cond.selects RX3 yX3_writeLine yX3_writeLine, Cond.code yX3_writeLine cX3_writeLine 4 (some .int), Cond.methodLink RX3 95 yX3_placeOf, Cond.instanceMethod yX3_placeOf, Cond.selects RX3 yX3_placeOf yX3_placeOf, Cond.code yX3_placeOf cX3_placeOf 3 (some .int), Cond.methodLink RX3 92 yX3_rankOf, Cond.instanceMethod yX3_rankOf, Cond.selects RX3 yX3_rankOf yX3_rankOf, Cond.code yX3_rankOf cX3_rankOf 3 (some .int), Cond.methodLink RX3 99 yX3_layAt, Cond.instanceMethod yX3_layAt, Cond.selects RX3 yX3_layAt yX3_layAt, Cond.code yX3_layAt cX3_layAt 2 none, Cond.methodLink RX3 103 yX3_moveGap, Cond.instanceMethod yX3_moveGap, Cond.selects RX3 yX3_moveGap yX3_moveGap, Cond.code yX3_moveGap cX3_moveGap 1 none]
def wsX5_hammer : List Cond := .code yX5_hammer cX5_hammer 3 (some .int) :: ((wsX5_hammer_r1 ++ (wsX5_hammer_r2 ++ (wsX5_hammer_r3 ++ wsX5_hammer_r4))) ++ wsX50 ++ wsX30 ++ wsX00 ++ (vx_atS RX5 253 "java/lang/IndexOutOfBoundsException" ["java/lang/RuntimeException", "java/lang/Exception"]).filter goodWord ++ (vx_atS RX5 44 "java/lang/IllegalArgumentException" ["java/lang/RuntimeException", "java/lang/Exception"]).filter goodWord)
def wsX5_requireStore : List Cond := .code yX5_requireStore cX5_requireStore 1 none :: ([.classLink RX5 51 "java/lang/IllegalStateException", .initialized "java/lang/IllegalStateException", .fieldLink RX5 19 "GapLines" "state" "LGapLines$State;", .methodLink RX5 217 yX3_exists, .instanceMethod yX3_exists, .selects RX3 yX3_exists yX3_exists, .initialized RX3, .code yX3_exists cX3_exists 1 (some .boolean), .fieldLink RX3 25 "GapLines$State" "lines" "I"] ++ wsX50 ++ wsX30 ++ (vx_atS RX5 55 "java/lang/IllegalStateException" ["java/lang/RuntimeException", "java/lang/Exception"]).filter goodWord)
def wsX5_all_r1 : List Cond := [Cond.classLink RX5 40 "java/lang/IllegalArgumentException", Cond.initialized "java/lang/IllegalArgumentException", Cond.fieldLink RX5 29 "GapLines" "history" "LGapLines$History;", Cond.fieldLink RX5 19 "GapLines" "state" "LGapLines$State;", Cond.fieldLink RX5 157 "GapLines$State" "lines" "I", Cond.methodLink RX5 149 yX5_isRounds, Cond.static yX5_isRounds, Cond.initialized RX5, Cond.code yX5_isRounds cX5_isRounds 1 (some .boolean), Cond.methodLink RX5 154 yX5_requireStore, Cond.instanceMethod yX5_requireStore, Cond.selects RX5 yX5_requireStore yX5_requireStore, Cond.code yX5_requireStore cX5_requireStore 1 none, Cond.classLink RX5 51 "java/lang/IllegalStateException", Cond.initialized "java/lang/IllegalStateException", Cond.methodLink RX5 217 yX3_exists, Cond.instanceMethod yX3_exists, Cond.selects RX3 yX3_exists yX3_exists, Cond.initialized RX3, Cond.code yX3_exists cX3_exists 1 (some .boolean), Cond.fieldLink RX3 25 "GapLines$State" "lines" "I", Cond.methodLink RX5 119 yX0_remember, Cond.instanceMethod yX0_remember, Cond.selects RX0 yX0_remember yX0_remember]
def wsX5_all_r2 : List Cond := [Cond.initialized RX0, Cond.code yX0_remember cX0_remember 2 none, Cond.fieldLink RX0 11 "GapLines$History" "states" "[LGapLines$State;", Cond.fieldLink RX0 19 "GapLines$History" "next" "I", Cond.classLink RX0 9 RX3, Cond.instantiable RX3 15, Cond.fieldLink RX0 15 "GapLines$History" "size" "I", Cond.methodLink RX0 27 Lib.Math.min.name, Cond.static Lib.Math.min.name, Cond.initialized "java/lang/Math", Cond.code Lib.Math.min.name Lib.Math.min.code 2 (some .int), Cond.instanceMethod yX3_init, Cond.code yX3_init cX3_init 1 none, Cond.methodLink RX3 3 objectInit, Cond.instanceMethod objectInit, Cond.code objectInit ⟨#[0xb1]⟩ 1 none, Cond.fieldLink RX3 9 "GapLines$State" "endurance" "I", Cond.fieldLink RX3 15 "GapLines$State" "every" "I", Cond.arrayClass .int, Cond.fieldLink RX3 18 "GapLines$State" "values" "[I", Cond.fieldLink RX3 22 "GapLines$State" "wears" "[I", Cond.methodLink RX0 23 yX3_copyFrom, Cond.instanceMethod yX3_copyFrom, Cond.selects RX3 yX3_copyFrom yX3_copyFrom]
def wsX5_all_r3 : List Cond := [Cond.code yX3_copyFrom cX3_copyFrom 2 none, Cond.fieldLink RX3 28 "GapLines$State" "key" "I", Cond.fieldLink RX3 31 "GapLines$State" "start" "I", Cond.fieldLink RX3 34 "GapLines$State" "gap" "I", Cond.fieldLink RX3 37 "GapLines$State" "spares" "I", Cond.fieldLink RX3 40 "GapLines$State" "writes" "I", Cond.fieldLink RX3 43 "GapLines$State" "moves" "I", Cond.fieldLink RX3 46 "GapLines$State" "writesSinceMove" "I", Cond.fieldLink RX3 49 "GapLines$State" "replaced" "I", Cond.fieldLink RX3 52 "GapLines$State" "laid" "I", Cond.fieldLink RX3 55 "GapLines$State" "dead" "Z", Cond.methodLink RX3 59 arraycopyName, Cond.native arraycopyName, Cond.static arraycopyName, Cond.initialized "java/lang/System", Cond.methodLink RX5 161 yX3_writeInTurn, Cond.instanceMethod yX3_writeInTurn, Cond.selects RX3 yX3_writeInTurn yX3_writeInTurn, Cond.code yX3_writeInTurn cX3_writeInTurn 4 (some .int), Cond.methodLink RX3 106 yX3_valueOf, Cond.instanceMethod yX3_valueOf, Cond.selects RX3 yX3_valueOf yX3_valueOf, Cond.code yX3_valueOf cX3_valueOf 2 (some .int), Cond.methodLink RX3 85 yX3_hasLine]
def wsX5_all_r4 : List Cond := [Cond.instanceMethod yX3_hasLine, Cond.selects RX3 yX3_hasLine yX3_hasLine, Cond.code yX3_hasLine cX3_hasLine 2 (some .boolean), Cond.methodLink RX3 109 yX3_writeLine, Cond.instanceMethod yX3_writeLine, Cond.selects RX3 yX3_writeLine yX3_writeLine, Cond.code yX3_writeLine cX3_writeLine 4 (some .int), Cond.methodLink RX3 95 yX3_placeOf, Cond.instanceMethod yX3_placeOf, Cond.selects RX3 yX3_placeOf yX3_placeOf, Cond.code yX3_placeOf cX3_placeOf 3 (some .int), Cond.methodLink RX3 92 yX3_rankOf, Cond.instanceMethod yX3_rankOf, Cond.selects RX3 yX3_rankOf yX3_rankOf, Cond.code yX3_rankOf cX3_rankOf 3 (some .int), Cond.methodLink RX3 99 yX3_layAt, Cond.instanceMethod yX3_layAt, Cond.selects RX3 yX3_layAt yX3_layAt, Cond.code yX3_layAt cX3_layAt 2 none, Cond.methodLink RX3 103 yX3_moveGap, Cond.instanceMethod yX3_moveGap, Cond.selects RX3 yX3_moveGap yX3_moveGap, Cond.code yX3_moveGap cX3_moveGap 1 none]
def wsX5_all : List Cond := .code yX5_all cX5_all 2 (some .int) :: ((wsX5_all_r1 ++ (wsX5_all_r2 ++ (wsX5_all_r3 ++ wsX5_all_r4))) ++ wsX50 ++ wsX30 ++ wsX00 ++ (vx_atS RX5 44 "java/lang/IllegalArgumentException" ["java/lang/RuntimeException", "java/lang/Exception"]).filter goodWord ++ (vx_atS RX5 55 "java/lang/IllegalStateException" ["java/lang/RuntimeException", "java/lang/Exception"]).filter goodWord)
def wsX5_set_r1 : List Cond := [Cond.classLink RX5 40 "java/lang/IllegalArgumentException", Cond.initialized "java/lang/IllegalArgumentException", Cond.fieldLink RX5 29 "GapLines" "history" "LGapLines$History;", Cond.fieldLink RX5 19 "GapLines" "state" "LGapLines$State;", Cond.methodLink RX5 164 yX5_isSettingValue, Cond.static yX5_isSettingValue, Cond.initialized RX5, Cond.code yX5_isSettingValue cX5_isSettingValue 2 (some .boolean), Cond.methodLink RX5 119 yX0_remember, Cond.instanceMethod yX0_remember, Cond.selects RX0 yX0_remember yX0_remember, Cond.initialized RX0, Cond.code yX0_remember cX0_remember 2 none, Cond.fieldLink RX0 11 "GapLines$History" "states" "[LGapLines$State;", Cond.fieldLink RX0 19 "GapLines$History" "next" "I", Cond.classLink RX0 9 RX3, Cond.instantiable RX3 15, Cond.initialized RX3, Cond.fieldLink RX0 15 "GapLines$History" "size" "I", Cond.methodLink RX0 27 Lib.Math.min.name, Cond.static Lib.Math.min.name, Cond.initialized "java/lang/Math", Cond.code Lib.Math.min.name Lib.Math.min.code 2 (some .int), Cond.instanceMethod yX3_init]
def wsX5_set_r2 : List Cond := [Cond.code yX3_init cX3_init 1 none, Cond.methodLink RX3 3 objectInit, Cond.instanceMethod objectInit, Cond.code objectInit ⟨#[0xb1]⟩ 1 none, Cond.fieldLink RX3 9 "GapLines$State" "endurance" "I", Cond.fieldLink RX3 15 "GapLines$State" "every" "I", Cond.arrayClass .int, Cond.fieldLink RX3 18 "GapLines$State" "values" "[I", Cond.fieldLink RX3 22 "GapLines$State" "wears" "[I", Cond.methodLink RX0 23 yX3_copyFrom, Cond.instanceMethod yX3_copyFrom, Cond.selects RX3 yX3_copyFrom yX3_copyFrom, Cond.code yX3_copyFrom cX3_copyFrom 2 none, Cond.fieldLink RX3 25 "GapLines$State" "lines" "I", Cond.fieldLink RX3 28 "GapLines$State" "key" "I", Cond.fieldLink RX3 31 "GapLines$State" "start" "I", Cond.fieldLink RX3 34 "GapLines$State" "gap" "I", Cond.fieldLink RX3 37 "GapLines$State" "spares" "I", Cond.fieldLink RX3 40 "GapLines$State" "writes" "I", Cond.fieldLink RX3 43 "GapLines$State" "moves" "I", Cond.fieldLink RX3 46 "GapLines$State" "writesSinceMove" "I", Cond.fieldLink RX3 49 "GapLines$State" "replaced" "I", Cond.fieldLink RX3 52 "GapLines$State" "laid" "I", Cond.fieldLink RX3 55 "GapLines$State" "dead" "Z"]
def wsX5_set_r3 : List Cond := [Cond.methodLink RX3 59 arraycopyName, Cond.native arraycopyName, Cond.static arraycopyName, Cond.initialized "java/lang/System", Cond.methodLink RX5 108 yX3_settingOf, Cond.instanceMethod yX3_settingOf, Cond.selects RX3 yX3_settingOf yX3_settingOf, Cond.code yX3_settingOf cX3_settingOf 2 (some .int), Cond.methodLink RX5 169 yX3_changeSetting, Cond.instanceMethod yX3_changeSetting, Cond.selects RX3 yX3_changeSetting yX3_changeSetting, Cond.code yX3_changeSetting cX3_changeSetting 3 none]
def wsX5_set : List Cond := .code yX5_set cX5_set 4 (some .int) :: ((wsX5_set_r1 ++ (wsX5_set_r2 ++ wsX5_set_r3)) ++ wsX50 ++ wsX00 ++ wsX30 ++ (vx_atS RX5 44 "java/lang/IllegalArgumentException" ["java/lang/RuntimeException", "java/lang/Exception"]).filter goodWord)
def wsX5_undo_r1 : List Cond := [Cond.classLink RX5 51 "java/lang/IllegalStateException", Cond.initialized "java/lang/IllegalStateException", Cond.fieldLink RX5 29 "GapLines" "history" "LGapLines$History;", Cond.fieldLink RX5 19 "GapLines" "state" "LGapLines$State;", Cond.methodLink RX5 173 yX0_takeBack, Cond.instanceMethod yX0_takeBack, Cond.selects RX0 yX0_takeBack yX0_takeBack, Cond.initialized RX0, Cond.code yX0_takeBack cX0_takeBack 3 (some .boolean), Cond.fieldLink RX0 19 "GapLines$History" "next" "I", Cond.fieldLink RX0 15 "GapLines$History" "size" "I", Cond.fieldLink RX0 11 "GapLines$History" "states" "[LGapLines$State;", Cond.methodLink RX0 23 yX3_copyFrom, Cond.instanceMethod yX3_copyFrom, Cond.selects RX3 yX3_copyFrom yX3_copyFrom, Cond.initialized RX3, Cond.code yX3_copyFrom cX3_copyFrom 2 none, Cond.fieldLink RX3 25 "GapLines$State" "lines" "I", Cond.fieldLink RX3 28 "GapLines$State" "key" "I", Cond.fieldLink RX3 31 "GapLines$State" "start" "I", Cond.fieldLink RX3 34 "GapLines$State" "gap" "I", Cond.fieldLink RX3 37 "GapLines$State" "spares" "I", Cond.fieldLink RX3 40 "GapLines$State" "writes" "I", Cond.fieldLink RX3 43 "GapLines$State" "moves" "I"]
def wsX5_undo_r2 : List Cond := [Cond.fieldLink RX3 46 "GapLines$State" "writesSinceMove" "I", Cond.fieldLink RX3 49 "GapLines$State" "replaced" "I", Cond.fieldLink RX3 52 "GapLines$State" "laid" "I", Cond.fieldLink RX3 55 "GapLines$State" "dead" "Z", Cond.fieldLink RX3 9 "GapLines$State" "endurance" "I", Cond.fieldLink RX3 15 "GapLines$State" "every" "I", Cond.fieldLink RX3 18 "GapLines$State" "values" "[I", Cond.methodLink RX3 59 arraycopyName, Cond.native arraycopyName, Cond.static arraycopyName, Cond.initialized "java/lang/System", Cond.fieldLink RX3 22 "GapLines$State" "wears" "[I", Cond.methodLink RX5 179 yX0_size, Cond.instanceMethod yX0_size, Cond.selects RX0 yX0_size yX0_size, Cond.code yX0_size cX0_size 1 (some .int)]
def wsX5_undo : List Cond := .code yX5_undo cX5_undo 1 (some .int) :: ((wsX5_undo_r1 ++ wsX5_undo_r2) ++ wsX50 ++ wsX00 ++ wsX30 ++ (vx_atS RX5 55 "java/lang/IllegalStateException" ["java/lang/RuntimeException", "java/lang/Exception"]).filter goodWord)
def wsX5_life_r1 : List Cond := [Cond.fieldLink RX5 23 "GapLines" "copy" "LGapLines$State;", Cond.fieldLink RX5 19 "GapLines" "state" "LGapLines$State;", Cond.methodLink RX5 86 yX5_requireLine, Cond.instanceMethod yX5_requireLine, Cond.selects RX5 yX5_requireLine yX5_requireLine, Cond.initialized RX5, Cond.code yX5_requireLine cX5_requireLine 2 none, Cond.classLink RX5 249 "java/lang/IndexOutOfBoundsException", Cond.initialized "java/lang/IndexOutOfBoundsException", Cond.methodLink RX5 246 yX3_hasLine, Cond.instanceMethod yX3_hasLine, Cond.selects RX3 yX3_hasLine yX3_hasLine, Cond.initialized RX3, Cond.code yX3_hasLine cX3_hasLine 2 (some .boolean), Cond.fieldLink RX3 25 "GapLines$State" "lines" "I", Cond.methodLink RX5 182 yX3_copyFrom, Cond.instanceMethod yX3_copyFrom, Cond.selects RX3 yX3_copyFrom yX3_copyFrom, Cond.code yX3_copyFrom cX3_copyFrom 2 none, Cond.fieldLink RX3 28 "GapLines$State" "key" "I", Cond.fieldLink RX3 31 "GapLines$State" "start" "I", Cond.fieldLink RX3 34 "GapLines$State" "gap" "I", Cond.fieldLink RX3 37 "GapLines$State" "spares" "I", Cond.fieldLink RX3 40 "GapLines$State" "writes" "I"]
def wsX5_life_r2 : List Cond := [Cond.fieldLink RX3 43 "GapLines$State" "moves" "I", Cond.fieldLink RX3 46 "GapLines$State" "writesSinceMove" "I", Cond.fieldLink RX3 49 "GapLines$State" "replaced" "I", Cond.fieldLink RX3 52 "GapLines$State" "laid" "I", Cond.fieldLink RX3 55 "GapLines$State" "dead" "Z", Cond.fieldLink RX3 9 "GapLines$State" "endurance" "I", Cond.fieldLink RX3 15 "GapLines$State" "every" "I", Cond.fieldLink RX3 18 "GapLines$State" "values" "[I", Cond.methodLink RX3 59 arraycopyName, Cond.native arraycopyName, Cond.static arraycopyName, Cond.initialized "java/lang/System", Cond.fieldLink RX3 22 "GapLines$State" "wears" "[I", Cond.methodLink RX5 146 yX3_hammerLine, Cond.instanceMethod yX3_hammerLine, Cond.selects RX3 yX3_hammerLine yX3_hammerLine, Cond.code yX3_hammerLine cX3_hammerLine 4 (some .int), Cond.methodLink RX3 106 yX3_valueOf, Cond.instanceMethod yX3_valueOf, Cond.selects RX3 yX3_valueOf yX3_valueOf, Cond.code yX3_valueOf cX3_valueOf 2 (some .int), Cond.methodLink RX3 85 yX3_hasLine, Cond.methodLink RX3 109 yX3_writeLine, Cond.instanceMethod yX3_writeLine]
def wsX5_life_r3 : List Cond := [Cond.selects RX3 yX3_writeLine yX3_writeLine, Cond.code yX3_writeLine cX3_writeLine 4 (some .int), Cond.methodLink RX3 95 yX3_placeOf, Cond.instanceMethod yX3_placeOf, Cond.selects RX3 yX3_placeOf yX3_placeOf, Cond.code yX3_placeOf cX3_placeOf 3 (some .int), Cond.methodLink RX3 92 yX3_rankOf, Cond.instanceMethod yX3_rankOf, Cond.selects RX3 yX3_rankOf yX3_rankOf, Cond.code yX3_rankOf cX3_rankOf 3 (some .int), Cond.methodLink RX3 99 yX3_layAt, Cond.instanceMethod yX3_layAt, Cond.selects RX3 yX3_layAt yX3_layAt, Cond.code yX3_layAt cX3_layAt 2 none, Cond.methodLink RX3 103 yX3_moveGap, Cond.instanceMethod yX3_moveGap, Cond.selects RX3 yX3_moveGap yX3_moveGap, Cond.code yX3_moveGap cX3_moveGap 1 none]
def wsX5_life : List Cond := .code yX5_life cX5_life 2 (some .int) :: ((wsX5_life_r1 ++ (wsX5_life_r2 ++ wsX5_life_r3)) ++ wsX50 ++ wsX30 ++ (vx_atS RX5 253 "java/lang/IndexOutOfBoundsException" ["java/lang/RuntimeException", "java/lang/Exception"]).filter goodWord)
def wsX5_lifeOfAll_r1 : List Cond := [Cond.fieldLink RX5 23 "GapLines" "copy" "LGapLines$State;", Cond.fieldLink RX5 19 "GapLines" "state" "LGapLines$State;", Cond.methodLink RX5 154 yX5_requireStore, Cond.instanceMethod yX5_requireStore, Cond.selects RX5 yX5_requireStore yX5_requireStore, Cond.initialized RX5, Cond.code yX5_requireStore cX5_requireStore 1 none, Cond.classLink RX5 51 "java/lang/IllegalStateException", Cond.initialized "java/lang/IllegalStateException", Cond.methodLink RX5 217 yX3_exists, Cond.instanceMethod yX3_exists, Cond.selects RX3 yX3_exists yX3_exists, Cond.initialized RX3, Cond.code yX3_exists cX3_exists 1 (some .boolean), Cond.fieldLink RX3 25 "GapLines$State" "lines" "I", Cond.methodLink RX5 182 yX3_copyFrom, Cond.instanceMethod yX3_copyFrom, Cond.selects RX3 yX3_copyFrom yX3_copyFrom, Cond.code yX3_copyFrom cX3_copyFrom 2 none, Cond.fieldLink RX3 28 "GapLines$State" "key" "I", Cond.fieldLink RX3 31 "GapLines$State" "start" "I", Cond.fieldLink RX3 34 "GapLines$State" "gap" "I", Cond.fieldLink RX3 37 "GapLines$State" "spares" "I", Cond.fieldLink RX3 40 "GapLines$State" "writes" "I"]
def wsX5_lifeOfAll_r2 : List Cond := [Cond.fieldLink RX3 43 "GapLines$State" "moves" "I", Cond.fieldLink RX3 46 "GapLines$State" "writesSinceMove" "I", Cond.fieldLink RX3 49 "GapLines$State" "replaced" "I", Cond.fieldLink RX3 52 "GapLines$State" "laid" "I", Cond.fieldLink RX3 55 "GapLines$State" "dead" "Z", Cond.fieldLink RX3 9 "GapLines$State" "endurance" "I", Cond.fieldLink RX3 15 "GapLines$State" "every" "I", Cond.fieldLink RX3 18 "GapLines$State" "values" "[I", Cond.methodLink RX3 59 arraycopyName, Cond.native arraycopyName, Cond.static arraycopyName, Cond.initialized "java/lang/System", Cond.fieldLink RX3 22 "GapLines$State" "wears" "[I", Cond.methodLink RX5 161 yX3_writeInTurn, Cond.instanceMethod yX3_writeInTurn, Cond.selects RX3 yX3_writeInTurn yX3_writeInTurn, Cond.code yX3_writeInTurn cX3_writeInTurn 4 (some .int), Cond.methodLink RX3 106 yX3_valueOf, Cond.instanceMethod yX3_valueOf, Cond.selects RX3 yX3_valueOf yX3_valueOf, Cond.code yX3_valueOf cX3_valueOf 2 (some .int), Cond.methodLink RX3 85 yX3_hasLine, Cond.instanceMethod yX3_hasLine, Cond.selects RX3 yX3_hasLine yX3_hasLine]
def wsX5_lifeOfAll_r3 : List Cond := [Cond.code yX3_hasLine cX3_hasLine 2 (some .boolean), Cond.methodLink RX3 109 yX3_writeLine, Cond.instanceMethod yX3_writeLine, Cond.selects RX3 yX3_writeLine yX3_writeLine, Cond.code yX3_writeLine cX3_writeLine 4 (some .int), Cond.methodLink RX3 95 yX3_placeOf, Cond.instanceMethod yX3_placeOf, Cond.selects RX3 yX3_placeOf yX3_placeOf, Cond.code yX3_placeOf cX3_placeOf 3 (some .int), Cond.methodLink RX3 92 yX3_rankOf, Cond.instanceMethod yX3_rankOf, Cond.selects RX3 yX3_rankOf yX3_rankOf, Cond.code yX3_rankOf cX3_rankOf 3 (some .int), Cond.methodLink RX3 99 yX3_layAt, Cond.instanceMethod yX3_layAt, Cond.selects RX3 yX3_layAt yX3_layAt, Cond.code yX3_layAt cX3_layAt 2 none, Cond.methodLink RX3 103 yX3_moveGap, Cond.instanceMethod yX3_moveGap, Cond.selects RX3 yX3_moveGap yX3_moveGap, Cond.code yX3_moveGap cX3_moveGap 1 none]
def wsX5_lifeOfAll : List Cond := .code yX5_lifeOfAll cX5_lifeOfAll 1 (some .int) :: ((wsX5_lifeOfAll_r1 ++ (wsX5_lifeOfAll_r2 ++ wsX5_lifeOfAll_r3)) ++ wsX50 ++ wsX30 ++ (vx_atS RX5 55 "java/lang/IllegalStateException" ["java/lang/RuntimeException", "java/lang/Exception"]).filter goodWord)
def wsX5_wearIfEvery_r1 : List Cond := [Cond.fieldLink RX5 23 "GapLines" "copy" "LGapLines$State;", Cond.fieldLink RX5 19 "GapLines" "state" "LGapLines$State;", Cond.fieldLink RX5 276 "GapLines$State" "every" "I", Cond.methodLink RX5 182 yX3_copyFrom, Cond.instanceMethod yX3_copyFrom, Cond.selects RX3 yX3_copyFrom yX3_copyFrom, Cond.initialized RX3, Cond.code yX3_copyFrom cX3_copyFrom 2 none, Cond.fieldLink RX3 25 "GapLines$State" "lines" "I", Cond.fieldLink RX3 28 "GapLines$State" "key" "I", Cond.fieldLink RX3 31 "GapLines$State" "start" "I", Cond.fieldLink RX3 34 "GapLines$State" "gap" "I", Cond.fieldLink RX3 37 "GapLines$State" "spares" "I", Cond.fieldLink RX3 40 "GapLines$State" "writes" "I", Cond.fieldLink RX3 43 "GapLines$State" "moves" "I", Cond.fieldLink RX3 46 "GapLines$State" "writesSinceMove" "I", Cond.fieldLink RX3 49 "GapLines$State" "replaced" "I", Cond.fieldLink RX3 52 "GapLines$State" "laid" "I", Cond.fieldLink RX3 55 "GapLines$State" "dead" "Z", Cond.fieldLink RX3 9 "GapLines$State" "endurance" "I", Cond.fieldLink RX3 15 "GapLines$State" "every" "I", Cond.fieldLink RX3 18 "GapLines$State" "values" "[I", Cond.methodLink RX3 59 arraycopyName, Cond.native arraycopyName]
def wsX5_wearIfEvery_r2 : List Cond := [Cond.static arraycopyName, Cond.initialized "java/lang/System", Cond.fieldLink RX3 22 "GapLines$State" "wears" "[I", Cond.methodLink RX5 146 yX3_hammerLine, Cond.instanceMethod yX3_hammerLine, Cond.selects RX3 yX3_hammerLine yX3_hammerLine, Cond.code yX3_hammerLine cX3_hammerLine 4 (some .int), Cond.methodLink RX3 106 yX3_valueOf, Cond.instanceMethod yX3_valueOf, Cond.selects RX3 yX3_valueOf yX3_valueOf, Cond.code yX3_valueOf cX3_valueOf 2 (some .int), Cond.methodLink RX3 85 yX3_hasLine, Cond.instanceMethod yX3_hasLine, Cond.selects RX3 yX3_hasLine yX3_hasLine, Cond.code yX3_hasLine cX3_hasLine 2 (some .boolean), Cond.methodLink RX3 109 yX3_writeLine, Cond.instanceMethod yX3_writeLine, Cond.selects RX3 yX3_writeLine yX3_writeLine, Cond.code yX3_writeLine cX3_writeLine 4 (some .int), Cond.methodLink RX3 95 yX3_placeOf, Cond.instanceMethod yX3_placeOf, Cond.selects RX3 yX3_placeOf yX3_placeOf, Cond.code yX3_placeOf cX3_placeOf 3 (some .int), Cond.methodLink RX3 92 yX3_rankOf]
def wsX5_wearIfEvery_r3 : List Cond := [Cond.instanceMethod yX3_rankOf, Cond.selects RX3 yX3_rankOf yX3_rankOf, Cond.code yX3_rankOf cX3_rankOf 3 (some .int), Cond.methodLink RX3 99 yX3_layAt, Cond.instanceMethod yX3_layAt, Cond.selects RX3 yX3_layAt yX3_layAt, Cond.code yX3_layAt cX3_layAt 2 none, Cond.methodLink RX3 103 yX3_moveGap, Cond.instanceMethod yX3_moveGap, Cond.selects RX3 yX3_moveGap yX3_moveGap, Cond.code yX3_moveGap cX3_moveGap 1 none, Cond.methodLink RX5 227 yX3_greatestWear, Cond.instanceMethod yX3_greatestWear, Cond.selects RX3 yX3_greatestWear yX3_greatestWear, Cond.code yX3_greatestWear cX3_greatestWear 3 (some .int), Cond.methodLink RX3 76 Lib.Math.max.name, Cond.static Lib.Math.max.name, Cond.initialized "java/lang/Math", Cond.code Lib.Math.max.name Lib.Math.max.code 2 (some .int)]
def wsX5_wearIfEvery : List Cond := .code yX5_wearIfEvery cX5_wearIfEvery 4 (some .int) :: ((wsX5_wearIfEvery_r1 ++ (wsX5_wearIfEvery_r2 ++ wsX5_wearIfEvery_r3)) ++ wsX50 ++ wsX30)
def wsX5_ifEvery_r1 : List Cond := [Cond.classLink RX5 40 "java/lang/IllegalArgumentException", Cond.initialized "java/lang/IllegalArgumentException", Cond.methodLink RX5 86 yX5_requireLine, Cond.instanceMethod yX5_requireLine, Cond.selects RX5 yX5_requireLine yX5_requireLine, Cond.initialized RX5, Cond.code yX5_requireLine cX5_requireLine 2 none, Cond.classLink RX5 249 "java/lang/IndexOutOfBoundsException", Cond.initialized "java/lang/IndexOutOfBoundsException", Cond.fieldLink RX5 19 "GapLines" "state" "LGapLines$State;", Cond.methodLink RX5 246 yX3_hasLine, Cond.instanceMethod yX3_hasLine, Cond.selects RX3 yX3_hasLine yX3_hasLine, Cond.initialized RX3, Cond.code yX3_hasLine cX3_hasLine 2 (some .boolean), Cond.fieldLink RX3 25 "GapLines$State" "lines" "I", Cond.methodLink RX5 143 yX5_requireHammered, Cond.static yX5_requireHammered, Cond.code yX5_requireHammered cX5_requireHammered 1 none, Cond.methodLink RX5 263 yX5_isHammered, Cond.static yX5_isHammered, Cond.code yX5_isHammered cX5_isHammered 1 (some .boolean), Cond.methodLink RX5 187 yX5_wearIfEvery, Cond.instanceMethod yX5_wearIfEvery]
def wsX5_ifEvery_r2 : List Cond := [Cond.selects RX5 yX5_wearIfEvery yX5_wearIfEvery, Cond.code yX5_wearIfEvery cX5_wearIfEvery 4 (some .int), Cond.fieldLink RX5 23 "GapLines" "copy" "LGapLines$State;", Cond.fieldLink RX5 276 "GapLines$State" "every" "I", Cond.methodLink RX5 182 yX3_copyFrom, Cond.instanceMethod yX3_copyFrom, Cond.selects RX3 yX3_copyFrom yX3_copyFrom, Cond.code yX3_copyFrom cX3_copyFrom 2 none, Cond.fieldLink RX3 28 "GapLines$State" "key" "I", Cond.fieldLink RX3 31 "GapLines$State" "start" "I", Cond.fieldLink RX3 34 "GapLines$State" "gap" "I", Cond.fieldLink RX3 37 "GapLines$State" "spares" "I", Cond.fieldLink RX3 40 "GapLines$State" "writes" "I", Cond.fieldLink RX3 43 "GapLines$State" "moves" "I", Cond.fieldLink RX3 46 "GapLines$State" "writesSinceMove" "I", Cond.fieldLink RX3 49 "GapLines$State" "replaced" "I", Cond.fieldLink RX3 52 "GapLines$State" "laid" "I", Cond.fieldLink RX3 55 "GapLines$State" "dead" "Z", Cond.fieldLink RX3 9 "GapLines$State" "endurance" "I", Cond.fieldLink RX3 15 "GapLines$State" "every" "I", Cond.fieldLink RX3 18 "GapLines$State" "values" "[I", Cond.methodLink RX3 59 arraycopyName, Cond.native arraycopyName, Cond.static arraycopyName]
def wsX5_ifEvery_r3 : List Cond := [Cond.initialized "java/lang/System", Cond.fieldLink RX3 22 "GapLines$State" "wears" "[I", Cond.methodLink RX5 146 yX3_hammerLine, Cond.instanceMethod yX3_hammerLine, Cond.selects RX3 yX3_hammerLine yX3_hammerLine, Cond.code yX3_hammerLine cX3_hammerLine 4 (some .int), Cond.methodLink RX3 106 yX3_valueOf, Cond.instanceMethod yX3_valueOf, Cond.selects RX3 yX3_valueOf yX3_valueOf, Cond.code yX3_valueOf cX3_valueOf 2 (some .int), Cond.methodLink RX3 85 yX3_hasLine, Cond.methodLink RX3 109 yX3_writeLine, Cond.instanceMethod yX3_writeLine, Cond.selects RX3 yX3_writeLine yX3_writeLine, Cond.code yX3_writeLine cX3_writeLine 4 (some .int), Cond.methodLink RX3 95 yX3_placeOf, Cond.instanceMethod yX3_placeOf, Cond.selects RX3 yX3_placeOf yX3_placeOf, Cond.code yX3_placeOf cX3_placeOf 3 (some .int), Cond.methodLink RX3 92 yX3_rankOf, Cond.instanceMethod yX3_rankOf, Cond.selects RX3 yX3_rankOf yX3_rankOf, Cond.code yX3_rankOf cX3_rankOf 3 (some .int), Cond.methodLink RX3 99 yX3_layAt]
def wsX5_ifEvery_r4 : List Cond := [Cond.instanceMethod yX3_layAt, Cond.selects RX3 yX3_layAt yX3_layAt, Cond.code yX3_layAt cX3_layAt 2 none, Cond.methodLink RX3 103 yX3_moveGap, Cond.instanceMethod yX3_moveGap, Cond.selects RX3 yX3_moveGap yX3_moveGap, Cond.code yX3_moveGap cX3_moveGap 1 none, Cond.methodLink RX5 227 yX3_greatestWear, Cond.instanceMethod yX3_greatestWear, Cond.selects RX3 yX3_greatestWear yX3_greatestWear, Cond.code yX3_greatestWear cX3_greatestWear 3 (some .int), Cond.methodLink RX3 76 Lib.Math.max.name, Cond.static Lib.Math.max.name, Cond.initialized "java/lang/Math", Cond.code Lib.Math.max.name Lib.Math.max.code 2 (some .int)]
def wsX5_ifEvery : List Cond := .code yX5_ifEvery cX5_ifEvery 4 (some .int) :: ((wsX5_ifEvery_r1 ++ (wsX5_ifEvery_r2 ++ (wsX5_ifEvery_r3 ++ wsX5_ifEvery_r4))) ++ wsX50 ++ wsX30 ++ (vx_atS RX5 44 "java/lang/IllegalArgumentException" ["java/lang/RuntimeException", "java/lang/Exception"]).filter goodWord ++ (vx_atS RX5 253 "java/lang/IndexOutOfBoundsException" ["java/lang/RuntimeException", "java/lang/Exception"]).filter goodWord)
def wsX5_bestEvery_r1 : List Cond := [Cond.methodLink RX5 86 yX5_requireLine, Cond.instanceMethod yX5_requireLine, Cond.selects RX5 yX5_requireLine yX5_requireLine, Cond.initialized RX5, Cond.code yX5_requireLine cX5_requireLine 2 none, Cond.classLink RX5 249 "java/lang/IndexOutOfBoundsException", Cond.initialized "java/lang/IndexOutOfBoundsException", Cond.fieldLink RX5 19 "GapLines" "state" "LGapLines$State;", Cond.methodLink RX5 246 yX3_hasLine, Cond.instanceMethod yX3_hasLine, Cond.selects RX3 yX3_hasLine yX3_hasLine, Cond.initialized RX3, Cond.code yX3_hasLine cX3_hasLine 2 (some .boolean), Cond.fieldLink RX3 25 "GapLines$State" "lines" "I", Cond.methodLink RX5 143 yX5_requireHammered, Cond.static yX5_requireHammered, Cond.code yX5_requireHammered cX5_requireHammered 1 none, Cond.classLink RX5 40 "java/lang/IllegalArgumentException", Cond.initialized "java/lang/IllegalArgumentException", Cond.methodLink RX5 263 yX5_isHammered, Cond.static yX5_isHammered, Cond.code yX5_isHammered cX5_isHammered 1 (some .boolean), Cond.methodLink RX5 187 yX5_wearIfEvery, Cond.instanceMethod yX5_wearIfEvery]
def wsX5_bestEvery_r2 : List Cond := [Cond.selects RX5 yX5_wearIfEvery yX5_wearIfEvery, Cond.code yX5_wearIfEvery cX5_wearIfEvery 4 (some .int), Cond.fieldLink RX5 23 "GapLines" "copy" "LGapLines$State;", Cond.fieldLink RX5 276 "GapLines$State" "every" "I", Cond.methodLink RX5 182 yX3_copyFrom, Cond.instanceMethod yX3_copyFrom, Cond.selects RX3 yX3_copyFrom yX3_copyFrom, Cond.code yX3_copyFrom cX3_copyFrom 2 none, Cond.fieldLink RX3 28 "GapLines$State" "key" "I", Cond.fieldLink RX3 31 "GapLines$State" "start" "I", Cond.fieldLink RX3 34 "GapLines$State" "gap" "I", Cond.fieldLink RX3 37 "GapLines$State" "spares" "I", Cond.fieldLink RX3 40 "GapLines$State" "writes" "I", Cond.fieldLink RX3 43 "GapLines$State" "moves" "I", Cond.fieldLink RX3 46 "GapLines$State" "writesSinceMove" "I", Cond.fieldLink RX3 49 "GapLines$State" "replaced" "I", Cond.fieldLink RX3 52 "GapLines$State" "laid" "I", Cond.fieldLink RX3 55 "GapLines$State" "dead" "Z", Cond.fieldLink RX3 9 "GapLines$State" "endurance" "I", Cond.fieldLink RX3 15 "GapLines$State" "every" "I", Cond.fieldLink RX3 18 "GapLines$State" "values" "[I", Cond.methodLink RX3 59 arraycopyName, Cond.native arraycopyName, Cond.static arraycopyName]
def wsX5_bestEvery_r3 : List Cond := [Cond.initialized "java/lang/System", Cond.fieldLink RX3 22 "GapLines$State" "wears" "[I", Cond.methodLink RX5 146 yX3_hammerLine, Cond.instanceMethod yX3_hammerLine, Cond.selects RX3 yX3_hammerLine yX3_hammerLine, Cond.code yX3_hammerLine cX3_hammerLine 4 (some .int), Cond.methodLink RX3 106 yX3_valueOf, Cond.instanceMethod yX3_valueOf, Cond.selects RX3 yX3_valueOf yX3_valueOf, Cond.code yX3_valueOf cX3_valueOf 2 (some .int), Cond.methodLink RX3 85 yX3_hasLine, Cond.methodLink RX3 109 yX3_writeLine, Cond.instanceMethod yX3_writeLine, Cond.selects RX3 yX3_writeLine yX3_writeLine, Cond.code yX3_writeLine cX3_writeLine 4 (some .int), Cond.methodLink RX3 95 yX3_placeOf, Cond.instanceMethod yX3_placeOf, Cond.selects RX3 yX3_placeOf yX3_placeOf, Cond.code yX3_placeOf cX3_placeOf 3 (some .int), Cond.methodLink RX3 92 yX3_rankOf, Cond.instanceMethod yX3_rankOf, Cond.selects RX3 yX3_rankOf yX3_rankOf, Cond.code yX3_rankOf cX3_rankOf 3 (some .int), Cond.methodLink RX3 99 yX3_layAt]
def wsX5_bestEvery_r4 : List Cond := [Cond.instanceMethod yX3_layAt, Cond.selects RX3 yX3_layAt yX3_layAt, Cond.code yX3_layAt cX3_layAt 2 none, Cond.methodLink RX3 103 yX3_moveGap, Cond.instanceMethod yX3_moveGap, Cond.selects RX3 yX3_moveGap yX3_moveGap, Cond.code yX3_moveGap cX3_moveGap 1 none, Cond.methodLink RX5 227 yX3_greatestWear, Cond.instanceMethod yX3_greatestWear, Cond.selects RX3 yX3_greatestWear yX3_greatestWear, Cond.code yX3_greatestWear cX3_greatestWear 3 (some .int), Cond.methodLink RX3 76 Lib.Math.max.name, Cond.static Lib.Math.max.name, Cond.initialized "java/lang/Math", Cond.code Lib.Math.max.name Lib.Math.max.code 2 (some .int)]
def wsX5_bestEvery : List Cond := .code yX5_bestEvery cX5_bestEvery 7 (some .int) :: ((wsX5_bestEvery_r1 ++ (wsX5_bestEvery_r2 ++ (wsX5_bestEvery_r3 ++ wsX5_bestEvery_r4))) ++ wsX50 ++ wsX30 ++ (vx_atS RX5 253 "java/lang/IndexOutOfBoundsException" ["java/lang/RuntimeException", "java/lang/Exception"]).filter goodWord ++ (vx_atS RX5 44 "java/lang/IllegalArgumentException" ["java/lang/RuntimeException", "java/lang/Exception"]).filter goodWord)
def wsX5_movesTo_r1 : List Cond := [Cond.fieldLink RX5 19 "GapLines" "state" "LGapLines$State;", Cond.methodLink RX5 86 yX5_requireLine, Cond.instanceMethod yX5_requireLine, Cond.selects RX5 yX5_requireLine yX5_requireLine, Cond.initialized RX5, Cond.code yX5_requireLine cX5_requireLine 2 none, Cond.classLink RX5 249 "java/lang/IndexOutOfBoundsException", Cond.initialized "java/lang/IndexOutOfBoundsException", Cond.methodLink RX5 246 yX3_hasLine, Cond.instanceMethod yX3_hasLine, Cond.selects RX3 yX3_hasLine yX3_hasLine, Cond.initialized RX3, Cond.code yX3_hasLine cX3_hasLine 2 (some .boolean), Cond.fieldLink RX3 25 "GapLines$State" "lines" "I", Cond.methodLink RX5 191 yX3_movesUntilMoved, Cond.instanceMethod yX3_movesUntilMoved, Cond.selects RX3 yX3_movesUntilMoved yX3_movesUntilMoved, Cond.code yX3_movesUntilMoved cX3_movesUntilMoved 3 (some .int), Cond.fieldLink RX3 31 "GapLines$State" "start" "I", Cond.fieldLink RX3 34 "GapLines$State" "gap" "I", Cond.methodLink RX3 92 yX3_rankOf, Cond.instanceMethod yX3_rankOf, Cond.selects RX3 yX3_rankOf yX3_rankOf, Cond.code yX3_rankOf cX3_rankOf 3 (some .int)]
def wsX5_movesTo_r2 : List Cond := [Cond.fieldLink RX3 28 "GapLines$State" "key" "I"]
def wsX5_movesTo : List Cond := .code yX5_movesTo cX5_movesTo 2 (some .int) :: ((wsX5_movesTo_r1 ++ wsX5_movesTo_r2) ++ wsX50 ++ wsX30 ++ (vx_atS RX5 253 "java/lang/IndexOutOfBoundsException" ["java/lang/RuntimeException", "java/lang/Exception"]).filter goodWord)
def wsX5_placeBehind_r1 : List Cond := [Cond.classLink RX5 40 "java/lang/IllegalArgumentException", Cond.initialized "java/lang/IllegalArgumentException", Cond.fieldLink RX5 19 "GapLines" "state" "LGapLines$State;", Cond.methodLink RX5 86 yX5_requireLine, Cond.instanceMethod yX5_requireLine, Cond.selects RX5 yX5_requireLine yX5_requireLine, Cond.initialized RX5, Cond.code yX5_requireLine cX5_requireLine 2 none, Cond.classLink RX5 249 "java/lang/IndexOutOfBoundsException", Cond.initialized "java/lang/IndexOutOfBoundsException", Cond.methodLink RX5 246 yX3_hasLine, Cond.instanceMethod yX3_hasLine, Cond.selects RX3 yX3_hasLine yX3_hasLine, Cond.initialized RX3, Cond.code yX3_hasLine cX3_hasLine 2 (some .boolean), Cond.fieldLink RX3 25 "GapLines$State" "lines" "I", Cond.methodLink RX5 196 yX3_placeAfterMoves, Cond.instanceMethod yX3_placeAfterMoves, Cond.selects RX3 yX3_placeAfterMoves yX3_placeAfterMoves, Cond.code yX3_placeAfterMoves cX3_placeAfterMoves 7 (some .int), Cond.fieldLink RX3 34 "GapLines$State" "gap" "I", Cond.fieldLink RX3 31 "GapLines$State" "start" "I", Cond.methodLink RX3 85 yX3_hasLine, Cond.methodLink RX3 92 yX3_rankOf]
def wsX5_placeBehind_r2 : List Cond := [Cond.instanceMethod yX3_rankOf, Cond.selects RX3 yX3_rankOf yX3_rankOf, Cond.code yX3_rankOf cX3_rankOf 3 (some .int), Cond.fieldLink RX3 28 "GapLines$State" "key" "I"]
def wsX5_placeBehind : List Cond := .code yX5_placeBehind cX5_placeBehind 3 (some .int) :: ((wsX5_placeBehind_r1 ++ wsX5_placeBehind_r2) ++ wsX50 ++ wsX30 ++ (vx_atS RX5 44 "java/lang/IllegalArgumentException" ["java/lang/RuntimeException", "java/lang/Exception"]).filter goodWord ++ (vx_atS RX5 253 "java/lang/IndexOutOfBoundsException" ["java/lang/RuntimeException", "java/lang/Exception"]).filter goodWord)
def wsX5_withoutLastCommands : List Cond := .code yX5_withoutLastCommands cX5_withoutLastCommands 6 (some .long) :: ([.constantLong RX5 207 (1000000)])
def wsX5_runScript_r1 : List Cond := [Cond.classLink RX5 40 "java/lang/IllegalArgumentException", Cond.initialized "java/lang/IllegalArgumentException", Cond.fieldLink RX5 23 "GapLines" "copy" "LGapLines$State;", Cond.fieldLink RX5 19 "GapLines" "state" "LGapLines$State;", Cond.constantLong RX5 207 (1000000), Cond.methodLink RX5 201 yX5_withoutLastCommands, Cond.static yX5_withoutLastCommands, Cond.initialized RX5, Cond.code yX5_withoutLastCommands cX5_withoutLastCommands 6 (some .long), Cond.methodLink RX5 182 yX3_copyFrom, Cond.instanceMethod yX3_copyFrom, Cond.selects RX3 yX3_copyFrom yX3_copyFrom, Cond.initialized RX3, Cond.code yX3_copyFrom cX3_copyFrom 2 none, Cond.fieldLink RX3 25 "GapLines$State" "lines" "I", Cond.fieldLink RX3 28 "GapLines$State" "key" "I", Cond.fieldLink RX3 31 "GapLines$State" "start" "I", Cond.fieldLink RX3 34 "GapLines$State" "gap" "I", Cond.fieldLink RX3 37 "GapLines$State" "spares" "I", Cond.fieldLink RX3 40 "GapLines$State" "writes" "I", Cond.fieldLink RX3 43 "GapLines$State" "moves" "I", Cond.fieldLink RX3 46 "GapLines$State" "writesSinceMove" "I", Cond.fieldLink RX3 49 "GapLines$State" "replaced" "I", Cond.fieldLink RX3 52 "GapLines$State" "laid" "I"]
def wsX5_runScript_r2 : List Cond := [Cond.fieldLink RX3 55 "GapLines$State" "dead" "Z", Cond.fieldLink RX3 9 "GapLines$State" "endurance" "I", Cond.fieldLink RX3 15 "GapLines$State" "every" "I", Cond.fieldLink RX3 18 "GapLines$State" "values" "[I", Cond.methodLink RX3 59 arraycopyName, Cond.native arraycopyName, Cond.static arraycopyName, Cond.initialized "java/lang/System", Cond.fieldLink RX3 22 "GapLines$State" "wears" "[I", Cond.methodLink RX5 209 yX1_succeeds, Cond.static yX1_succeeds, Cond.initialized RX1, Cond.code yX1_succeeds cX1_succeeds 5 (some .boolean), Cond.constant RX1 7 (100000), Cond.fieldLink RX1 44 "GapLines$State" "dead" "Z", Cond.fieldLink RX1 48 "GapLines$State" "gap" "I", Cond.methodLink RX1 8 yX3_doWrite, Cond.instanceMethod yX3_doWrite, Cond.selects RX3 yX3_doWrite yX3_doWrite, Cond.code yX3_doWrite cX3_doWrite 3 (some .boolean), Cond.methodLink RX3 85 yX3_hasLine, Cond.instanceMethod yX3_hasLine, Cond.selects RX3 yX3_hasLine yX3_hasLine, Cond.code yX3_hasLine cX3_hasLine 2 (some .boolean)]
def wsX5_runScript_r3 : List Cond := [Cond.static yX5_isValue, Cond.code yX5_isValue cX5_isValue 1 (some .boolean), Cond.methodLink RX3 109 yX3_writeLine, Cond.instanceMethod yX3_writeLine, Cond.selects RX3 yX3_writeLine yX3_writeLine, Cond.code yX3_writeLine cX3_writeLine 4 (some .int), Cond.methodLink RX3 95 yX3_placeOf, Cond.instanceMethod yX3_placeOf, Cond.selects RX3 yX3_placeOf yX3_placeOf, Cond.code yX3_placeOf cX3_placeOf 3 (some .int), Cond.methodLink RX3 92 yX3_rankOf, Cond.instanceMethod yX3_rankOf, Cond.selects RX3 yX3_rankOf yX3_rankOf, Cond.code yX3_rankOf cX3_rankOf 3 (some .int), Cond.methodLink RX3 99 yX3_layAt, Cond.instanceMethod yX3_layAt, Cond.selects RX3 yX3_layAt yX3_layAt, Cond.code yX3_layAt cX3_layAt 2 none, Cond.methodLink RX3 103 yX3_moveGap, Cond.instanceMethod yX3_moveGap, Cond.selects RX3 yX3_moveGap yX3_moveGap, Cond.code yX3_moveGap cX3_moveGap 1 none, Cond.methodLink RX1 14 yX3_doHammer, Cond.instanceMethod yX3_doHammer]
def wsX5_runScript_r4 : List Cond := [Cond.selects RX3 yX3_doHammer yX3_doHammer, Cond.code yX3_doHammer cX3_doHammer 3 (some .boolean), Cond.static yX5_isHammered, Cond.code yX5_isHammered cX5_isHammered 1 (some .boolean), Cond.methodLink RX3 126 yX3_hammerLine, Cond.instanceMethod yX3_hammerLine, Cond.selects RX3 yX3_hammerLine yX3_hammerLine, Cond.code yX3_hammerLine cX3_hammerLine 4 (some .int), Cond.methodLink RX3 106 yX3_valueOf, Cond.instanceMethod yX3_valueOf, Cond.selects RX3 yX3_valueOf yX3_valueOf, Cond.code yX3_valueOf cX3_valueOf 2 (some .int), Cond.methodLink RX1 17 yX3_doAll, Cond.instanceMethod yX3_doAll, Cond.selects RX3 yX3_doAll yX3_doAll, Cond.code yX3_doAll cX3_doAll 2 (some .boolean), Cond.static yX5_isRounds, Cond.code yX5_isRounds cX5_isRounds 1 (some .boolean), Cond.methodLink RX3 112 yX3_exists, Cond.instanceMethod yX3_exists, Cond.selects RX3 yX3_exists yX3_exists, Cond.code yX3_exists cX3_exists 1 (some .boolean), Cond.methodLink RX3 132 yX3_writeInTurn, Cond.instanceMethod yX3_writeInTurn]
def wsX5_runScript_r5 : List Cond := [Cond.selects RX3 yX3_writeInTurn yX3_writeInTurn, Cond.code yX3_writeInTurn cX3_writeInTurn 4 (some .int), Cond.methodLink RX1 21 yX3_doSet, Cond.instanceMethod yX3_doSet, Cond.selects RX3 yX3_doSet yX3_doSet, Cond.code yX3_doSet cX3_doSet 3 (some .boolean), Cond.static yX5_isSettingValue, Cond.code yX5_isSettingValue cX5_isSettingValue 2 (some .boolean), Cond.methodLink RX3 139 yX3_changeSetting, Cond.instanceMethod yX3_changeSetting, Cond.selects RX3 yX3_changeSetting yX3_changeSetting, Cond.code yX3_changeSetting cX3_changeSetting 3 none, Cond.methodLink RX1 24 yX3_hasLine, Cond.methodLink RX1 27 yX3_valueOf, Cond.methodLink RX1 31 yX3_placeOf, Cond.methodLink RX1 34 yX3_hasPlace, Cond.instanceMethod yX3_hasPlace, Cond.selects RX3 yX3_hasPlace yX3_hasPlace, Cond.code yX3_hasPlace cX3_hasPlace 2 (some .boolean), Cond.methodLink RX1 37 yX3_wearOf, Cond.instanceMethod yX3_wearOf, Cond.selects RX3 yX3_wearOf yX3_wearOf, Cond.code yX3_wearOf cX3_wearOf 2 (some .int), Cond.methodLink RX3 89 yX3_hasPlace]
def wsX5_runScript_r6 : List Cond := [Cond.methodLink RX1 40 yX3_exists]
def wsX5_runScript : List Cond := .code yX5_runScript cX5_runScript 6 (some .int) :: ((wsX5_runScript_r1 ++ (wsX5_runScript_r2 ++ (wsX5_runScript_r3 ++ (wsX5_runScript_r4 ++ (wsX5_runScript_r5 ++ wsX5_runScript_r6))))) ++ wsX50 ++ wsX30 ++ (vx_atS RX5 44 "java/lang/IllegalArgumentException" ["java/lang/RuntimeException", "java/lang/Exception"]).filter goodWord)
def wsX5_simulate_r1 : List Cond := [Cond.classLink RX5 40 "java/lang/IllegalArgumentException", Cond.initialized "java/lang/IllegalArgumentException", Cond.fieldLink RX5 19 "GapLines" "state" "LGapLines$State;", Cond.fieldLink RX5 23 "GapLines" "copy" "LGapLines$State;", Cond.fieldLink RX5 224 "GapLines$State" "moves" "I", Cond.methodLink RX5 217 yX3_exists, Cond.instanceMethod yX3_exists, Cond.selects RX3 yX3_exists yX3_exists, Cond.initialized RX3, Cond.code yX3_exists cX3_exists 1 (some .boolean), Cond.fieldLink RX3 25 "GapLines$State" "lines" "I", Cond.methodLink RX5 182 yX3_copyFrom, Cond.instanceMethod yX3_copyFrom, Cond.selects RX3 yX3_copyFrom yX3_copyFrom, Cond.code yX3_copyFrom cX3_copyFrom 2 none, Cond.fieldLink RX3 28 "GapLines$State" "key" "I", Cond.fieldLink RX3 31 "GapLines$State" "start" "I", Cond.fieldLink RX3 34 "GapLines$State" "gap" "I", Cond.fieldLink RX3 37 "GapLines$State" "spares" "I", Cond.fieldLink RX3 40 "GapLines$State" "writes" "I", Cond.fieldLink RX3 43 "GapLines$State" "moves" "I", Cond.fieldLink RX3 46 "GapLines$State" "writesSinceMove" "I", Cond.fieldLink RX3 49 "GapLines$State" "replaced" "I", Cond.fieldLink RX3 52 "GapLines$State" "laid" "I"]
def wsX5_simulate_r2 : List Cond := [Cond.fieldLink RX3 55 "GapLines$State" "dead" "Z", Cond.fieldLink RX3 9 "GapLines$State" "endurance" "I", Cond.fieldLink RX3 15 "GapLines$State" "every" "I", Cond.fieldLink RX3 18 "GapLines$State" "values" "[I", Cond.methodLink RX3 59 arraycopyName, Cond.native arraycopyName, Cond.static arraycopyName, Cond.initialized "java/lang/System", Cond.fieldLink RX3 22 "GapLines$State" "wears" "[I", Cond.methodLink RX5 220 yX3_writeByChance, Cond.instanceMethod yX3_writeByChance, Cond.selects RX3 yX3_writeByChance yX3_writeByChance, Cond.code yX3_writeByChance cX3_writeByChance 9 none, Cond.constantLong RX3 116 (6364136223846793005), Cond.constantLong RX3 118 (1442695040888963407), Cond.methodLink RX3 112 yX3_exists, Cond.methodLink RX3 109 yX3_writeLine, Cond.instanceMethod yX3_writeLine, Cond.selects RX3 yX3_writeLine yX3_writeLine, Cond.code yX3_writeLine cX3_writeLine 4 (some .int), Cond.methodLink RX3 85 yX3_hasLine, Cond.instanceMethod yX3_hasLine, Cond.selects RX3 yX3_hasLine yX3_hasLine, Cond.code yX3_hasLine cX3_hasLine 2 (some .boolean)]
def wsX5_simulate_r3 : List Cond := [Cond.methodLink RX3 95 yX3_placeOf, Cond.instanceMethod yX3_placeOf, Cond.selects RX3 yX3_placeOf yX3_placeOf, Cond.code yX3_placeOf cX3_placeOf 3 (some .int), Cond.methodLink RX3 92 yX3_rankOf, Cond.instanceMethod yX3_rankOf, Cond.selects RX3 yX3_rankOf yX3_rankOf, Cond.code yX3_rankOf cX3_rankOf 3 (some .int), Cond.methodLink RX3 99 yX3_layAt, Cond.instanceMethod yX3_layAt, Cond.selects RX3 yX3_layAt yX3_layAt, Cond.code yX3_layAt cX3_layAt 2 none, Cond.methodLink RX3 103 yX3_moveGap, Cond.instanceMethod yX3_moveGap, Cond.selects RX3 yX3_moveGap yX3_moveGap, Cond.code yX3_moveGap cX3_moveGap 1 none, Cond.methodLink RX5 227 yX3_greatestWear, Cond.instanceMethod yX3_greatestWear, Cond.selects RX3 yX3_greatestWear yX3_greatestWear, Cond.code yX3_greatestWear cX3_greatestWear 3 (some .int), Cond.methodLink RX3 76 Lib.Math.max.name, Cond.static Lib.Math.max.name, Cond.initialized "java/lang/Math", Cond.code Lib.Math.max.name Lib.Math.max.code 2 (some .int)]
def wsX5_simulate : List Cond := .code yX5_simulate cX5_simulate 4 (some .int) :: ((wsX5_simulate_r1 ++ (wsX5_simulate_r2 ++ wsX5_simulate_r3)) ++ wsX50 ++ wsX30 ++ (vx_atS RX5 44 "java/lang/IllegalArgumentException" ["java/lang/RuntimeException", "java/lang/Exception"]).filter goodWord)
def wsX5_requireSlot : List Cond := .code yX5_requireSlot cX5_requireSlot 1 none :: ([.classLink RX5 249 "java/lang/IndexOutOfBoundsException", .initialized "java/lang/IndexOutOfBoundsException", .methodLink RX5 268 yX2_has, .static yX2_has, .initialized RX2, .code yX2_has cX2_has 1 (some .boolean)] ++ (vx_atS RX5 253 "java/lang/IndexOutOfBoundsException" ["java/lang/RuntimeException", "java/lang/Exception"]).filter goodWord)
def wsX5_save_r1 : List Cond := [Cond.fieldLink RX5 36 "GapLines" "slots" "LGapLines$Slots;", Cond.fieldLink RX5 19 "GapLines" "state" "LGapLines$State;", Cond.fieldLink RX5 237 "GapLines$State" "writes" "I", Cond.methodLink RX5 230 yX5_requireSlot, Cond.static yX5_requireSlot, Cond.initialized RX5, Cond.code yX5_requireSlot cX5_requireSlot 1 none, Cond.classLink RX5 249 "java/lang/IndexOutOfBoundsException", Cond.initialized "java/lang/IndexOutOfBoundsException", Cond.methodLink RX5 268 yX2_has, Cond.static yX2_has, Cond.initialized RX2, Cond.code yX2_has cX2_has 1 (some .boolean), Cond.methodLink RX5 233 yX2_keep, Cond.instanceMethod yX2_keep, Cond.selects RX2 yX2_keep yX2_keep, Cond.code yX2_keep cX2_keep 3 none, Cond.fieldLink RX2 11 "GapLines$Slots" "states" "[LGapLines$State;", Cond.classLink RX2 9 RX3, Cond.instantiable RX3 15, Cond.initialized RX3, Cond.fieldLink RX2 15 "GapLines$Slots" "filled" "[Z", Cond.methodLink RX2 19 yX2_has, Cond.instanceMethod yX3_init]
def wsX5_save_r2 : List Cond := [Cond.code yX3_init cX3_init 1 none, Cond.methodLink RX3 3 objectInit, Cond.instanceMethod objectInit, Cond.code objectInit ⟨#[0xb1]⟩ 1 none, Cond.fieldLink RX3 9 "GapLines$State" "endurance" "I", Cond.fieldLink RX3 15 "GapLines$State" "every" "I", Cond.arrayClass .int, Cond.fieldLink RX3 18 "GapLines$State" "values" "[I", Cond.fieldLink RX3 22 "GapLines$State" "wears" "[I", Cond.methodLink RX2 24 yX3_copyFrom, Cond.instanceMethod yX3_copyFrom, Cond.selects RX3 yX3_copyFrom yX3_copyFrom, Cond.code yX3_copyFrom cX3_copyFrom 2 none, Cond.fieldLink RX3 25 "GapLines$State" "lines" "I", Cond.fieldLink RX3 28 "GapLines$State" "key" "I", Cond.fieldLink RX3 31 "GapLines$State" "start" "I", Cond.fieldLink RX3 34 "GapLines$State" "gap" "I", Cond.fieldLink RX3 37 "GapLines$State" "spares" "I", Cond.fieldLink RX3 40 "GapLines$State" "writes" "I", Cond.fieldLink RX3 43 "GapLines$State" "moves" "I", Cond.fieldLink RX3 46 "GapLines$State" "writesSinceMove" "I", Cond.fieldLink RX3 49 "GapLines$State" "replaced" "I", Cond.fieldLink RX3 52 "GapLines$State" "laid" "I", Cond.fieldLink RX3 55 "GapLines$State" "dead" "Z"]
def wsX5_save_r3 : List Cond := [Cond.methodLink RX3 59 arraycopyName, Cond.native arraycopyName, Cond.static arraycopyName, Cond.initialized "java/lang/System"]
def wsX5_save : List Cond := .code yX5_save cX5_save 2 (some .int) :: ((wsX5_save_r1 ++ (wsX5_save_r2 ++ wsX5_save_r3)) ++ wsX50 ++ wsX30 ++ wsX20 ++ (vx_atS RX5 253 "java/lang/IndexOutOfBoundsException" ["java/lang/RuntimeException", "java/lang/Exception"]).filter goodWord)
def wsX5_restore_r1 : List Cond := [Cond.classLink RX5 51 "java/lang/IllegalStateException", Cond.initialized "java/lang/IllegalStateException", Cond.fieldLink RX5 36 "GapLines" "slots" "LGapLines$Slots;", Cond.fieldLink RX5 19 "GapLines" "state" "LGapLines$State;", Cond.fieldLink RX5 29 "GapLines" "history" "LGapLines$History;", Cond.fieldLink RX5 237 "GapLines$State" "writes" "I", Cond.methodLink RX5 230 yX5_requireSlot, Cond.static yX5_requireSlot, Cond.initialized RX5, Cond.code yX5_requireSlot cX5_requireSlot 1 none, Cond.classLink RX5 249 "java/lang/IndexOutOfBoundsException", Cond.initialized "java/lang/IndexOutOfBoundsException", Cond.methodLink RX5 268 yX2_has, Cond.static yX2_has, Cond.initialized RX2, Cond.code yX2_has cX2_has 1 (some .boolean), Cond.methodLink RX5 240 yX2_bringBack, Cond.instanceMethod yX2_bringBack, Cond.selects RX2 yX2_bringBack yX2_bringBack, Cond.code yX2_bringBack cX2_bringBack 3 (some .boolean), Cond.fieldLink RX2 15 "GapLines$Slots" "filled" "[Z", Cond.fieldLink RX2 11 "GapLines$Slots" "states" "[LGapLines$State;", Cond.methodLink RX2 19 yX2_has, Cond.methodLink RX2 24 yX3_copyFrom]
def wsX5_restore_r2 : List Cond := [Cond.instanceMethod yX3_copyFrom, Cond.selects RX3 yX3_copyFrom yX3_copyFrom, Cond.initialized RX3, Cond.code yX3_copyFrom cX3_copyFrom 2 none, Cond.fieldLink RX3 25 "GapLines$State" "lines" "I", Cond.fieldLink RX3 28 "GapLines$State" "key" "I", Cond.fieldLink RX3 31 "GapLines$State" "start" "I", Cond.fieldLink RX3 34 "GapLines$State" "gap" "I", Cond.fieldLink RX3 37 "GapLines$State" "spares" "I", Cond.fieldLink RX3 40 "GapLines$State" "writes" "I", Cond.fieldLink RX3 43 "GapLines$State" "moves" "I", Cond.fieldLink RX3 46 "GapLines$State" "writesSinceMove" "I", Cond.fieldLink RX3 49 "GapLines$State" "replaced" "I", Cond.fieldLink RX3 52 "GapLines$State" "laid" "I", Cond.fieldLink RX3 55 "GapLines$State" "dead" "Z", Cond.fieldLink RX3 9 "GapLines$State" "endurance" "I", Cond.fieldLink RX3 15 "GapLines$State" "every" "I", Cond.fieldLink RX3 18 "GapLines$State" "values" "[I", Cond.methodLink RX3 59 arraycopyName, Cond.native arraycopyName, Cond.static arraycopyName, Cond.initialized "java/lang/System", Cond.fieldLink RX3 22 "GapLines$State" "wears" "[I", Cond.methodLink RX5 69 yX0_forgetAll]
def wsX5_restore_r3 : List Cond := [Cond.instanceMethod yX0_forgetAll, Cond.selects RX0 yX0_forgetAll yX0_forgetAll, Cond.initialized RX0, Cond.code yX0_forgetAll cX0_forgetAll 1 none, Cond.fieldLink RX0 15 "GapLines$History" "size" "I"]
def wsX5_restore : List Cond := .code yX5_restore cX5_restore 2 (some .int) :: ((wsX5_restore_r1 ++ (wsX5_restore_r2 ++ wsX5_restore_r3)) ++ wsX50 ++ wsX30 ++ wsX20 ++ wsX00 ++ (vx_atS RX5 55 "java/lang/IllegalStateException" ["java/lang/RuntimeException", "java/lang/Exception"]).filter goodWord ++ (vx_atS RX5 253 "java/lang/IndexOutOfBoundsException" ["java/lang/RuntimeException", "java/lang/Exception"]).filter goodWord)
def wsJ9_max_7cf53 : List Cond := .code yJ9_max_7cf53 cJ9_max_7cf53 2 (some .int) :: ([])
def wsJ9_min_7cf53 : List Cond := .code yJ9_min_7cf53 cJ9_min_7cf53 2 (some .int) :: ([])
def wsL_doScript_r1 : List Cond := [Cond.classLink RL 13 "java/lang/IllegalArgumentException", Cond.constant RL 15 (-9999002), Cond.methodLink RL 7 yX5_runScript, Cond.instanceMethod yX5_runScript, Cond.selects RX5 yX5_runScript yX5_runScript, Cond.initialized RX5, Cond.code yX5_runScript cX5_runScript 6 (some .int), Cond.classLink RX5 40 "java/lang/IllegalArgumentException", Cond.initialized "java/lang/IllegalArgumentException", Cond.fieldLink RX5 23 "GapLines" "copy" "LGapLines$State;", Cond.fieldLink RX5 19 "GapLines" "state" "LGapLines$State;", Cond.constantLong RX5 207 (1000000), Cond.methodLink RX5 201 yX5_withoutLastCommands, Cond.static yX5_withoutLastCommands, Cond.code yX5_withoutLastCommands cX5_withoutLastCommands 6 (some .long), Cond.methodLink RX5 182 yX3_copyFrom, Cond.instanceMethod yX3_copyFrom, Cond.selects RX3 yX3_copyFrom yX3_copyFrom, Cond.initialized RX3, Cond.code yX3_copyFrom cX3_copyFrom 2 none, Cond.fieldLink RX3 25 "GapLines$State" "lines" "I", Cond.fieldLink RX3 28 "GapLines$State" "key" "I", Cond.fieldLink RX3 31 "GapLines$State" "start" "I", Cond.fieldLink RX3 34 "GapLines$State" "gap" "I"]
def wsL_doScript_r2 : List Cond := [Cond.fieldLink RX3 37 "GapLines$State" "spares" "I", Cond.fieldLink RX3 40 "GapLines$State" "writes" "I", Cond.fieldLink RX3 43 "GapLines$State" "moves" "I", Cond.fieldLink RX3 46 "GapLines$State" "writesSinceMove" "I", Cond.fieldLink RX3 49 "GapLines$State" "replaced" "I", Cond.fieldLink RX3 52 "GapLines$State" "laid" "I", Cond.fieldLink RX3 55 "GapLines$State" "dead" "Z", Cond.fieldLink RX3 9 "GapLines$State" "endurance" "I", Cond.fieldLink RX3 15 "GapLines$State" "every" "I", Cond.fieldLink RX3 18 "GapLines$State" "values" "[I", Cond.methodLink RX3 59 arraycopyName, Cond.native arraycopyName, Cond.static arraycopyName, Cond.initialized "java/lang/System", Cond.fieldLink RX3 22 "GapLines$State" "wears" "[I", Cond.methodLink RX5 209 yX1_succeeds, Cond.static yX1_succeeds, Cond.initialized RX1, Cond.code yX1_succeeds cX1_succeeds 5 (some .boolean), Cond.constant RX1 7 (100000), Cond.fieldLink RX1 44 "GapLines$State" "dead" "Z", Cond.fieldLink RX1 48 "GapLines$State" "gap" "I", Cond.methodLink RX1 8 yX3_doWrite, Cond.instanceMethod yX3_doWrite]
def wsL_doScript_r3 : List Cond := [Cond.selects RX3 yX3_doWrite yX3_doWrite, Cond.code yX3_doWrite cX3_doWrite 3 (some .boolean), Cond.methodLink RX3 85 yX3_hasLine, Cond.instanceMethod yX3_hasLine, Cond.selects RX3 yX3_hasLine yX3_hasLine, Cond.code yX3_hasLine cX3_hasLine 2 (some .boolean), Cond.static yX5_isValue, Cond.code yX5_isValue cX5_isValue 1 (some .boolean), Cond.methodLink RX3 109 yX3_writeLine, Cond.instanceMethod yX3_writeLine, Cond.selects RX3 yX3_writeLine yX3_writeLine, Cond.code yX3_writeLine cX3_writeLine 4 (some .int), Cond.methodLink RX3 95 yX3_placeOf, Cond.instanceMethod yX3_placeOf, Cond.selects RX3 yX3_placeOf yX3_placeOf, Cond.code yX3_placeOf cX3_placeOf 3 (some .int), Cond.methodLink RX3 92 yX3_rankOf, Cond.instanceMethod yX3_rankOf, Cond.selects RX3 yX3_rankOf yX3_rankOf, Cond.code yX3_rankOf cX3_rankOf 3 (some .int), Cond.methodLink RX3 99 yX3_layAt, Cond.instanceMethod yX3_layAt, Cond.selects RX3 yX3_layAt yX3_layAt, Cond.code yX3_layAt cX3_layAt 2 none]
def wsL_doScript_r4 : List Cond := [Cond.methodLink RX3 103 yX3_moveGap, Cond.instanceMethod yX3_moveGap, Cond.selects RX3 yX3_moveGap yX3_moveGap, Cond.code yX3_moveGap cX3_moveGap 1 none, Cond.methodLink RX1 14 yX3_doHammer, Cond.instanceMethod yX3_doHammer, Cond.selects RX3 yX3_doHammer yX3_doHammer, Cond.code yX3_doHammer cX3_doHammer 3 (some .boolean), Cond.static yX5_isHammered, Cond.code yX5_isHammered cX5_isHammered 1 (some .boolean), Cond.methodLink RX3 126 yX3_hammerLine, Cond.instanceMethod yX3_hammerLine, Cond.selects RX3 yX3_hammerLine yX3_hammerLine, Cond.code yX3_hammerLine cX3_hammerLine 4 (some .int), Cond.methodLink RX3 106 yX3_valueOf, Cond.instanceMethod yX3_valueOf, Cond.selects RX3 yX3_valueOf yX3_valueOf, Cond.code yX3_valueOf cX3_valueOf 2 (some .int), Cond.methodLink RX1 17 yX3_doAll, Cond.instanceMethod yX3_doAll, Cond.selects RX3 yX3_doAll yX3_doAll, Cond.code yX3_doAll cX3_doAll 2 (some .boolean), Cond.static yX5_isRounds, Cond.code yX5_isRounds cX5_isRounds 1 (some .boolean)]
def wsL_doScript_r5 : List Cond := [Cond.methodLink RX3 112 yX3_exists, Cond.instanceMethod yX3_exists, Cond.selects RX3 yX3_exists yX3_exists, Cond.code yX3_exists cX3_exists 1 (some .boolean), Cond.methodLink RX3 132 yX3_writeInTurn, Cond.instanceMethod yX3_writeInTurn, Cond.selects RX3 yX3_writeInTurn yX3_writeInTurn, Cond.code yX3_writeInTurn cX3_writeInTurn 4 (some .int), Cond.methodLink RX1 21 yX3_doSet, Cond.instanceMethod yX3_doSet, Cond.selects RX3 yX3_doSet yX3_doSet, Cond.code yX3_doSet cX3_doSet 3 (some .boolean), Cond.static yX5_isSettingValue, Cond.code yX5_isSettingValue cX5_isSettingValue 2 (some .boolean), Cond.methodLink RX3 139 yX3_changeSetting, Cond.instanceMethod yX3_changeSetting, Cond.selects RX3 yX3_changeSetting yX3_changeSetting, Cond.code yX3_changeSetting cX3_changeSetting 3 none, Cond.methodLink RX1 24 yX3_hasLine, Cond.methodLink RX1 27 yX3_valueOf, Cond.methodLink RX1 31 yX3_placeOf, Cond.methodLink RX1 34 yX3_hasPlace, Cond.instanceMethod yX3_hasPlace, Cond.selects RX3 yX3_hasPlace yX3_hasPlace]
def wsL_doScript_r6 : List Cond := [Cond.code yX3_hasPlace cX3_hasPlace 2 (some .boolean), Cond.methodLink RX1 37 yX3_wearOf, Cond.instanceMethod yX3_wearOf, Cond.selects RX3 yX3_wearOf yX3_wearOf, Cond.code yX3_wearOf cX3_wearOf 2 (some .int), Cond.methodLink RX3 89 yX3_hasPlace, Cond.methodLink RX1 40 yX3_exists]
def wsL_doScript : List Cond := .codeWith yL_doScript cL_doScript 5 (some .int) [(0, 6, 7, 13)] :: ((wsL_doScript_r1 ++ (wsL_doScript_r2 ++ (wsL_doScript_r3 ++ (wsL_doScript_r4 ++ (wsL_doScript_r5 ++ wsL_doScript_r6))))) ++ wsX50 ++ wsX30 ++ (vx_atS RX5 44 "java/lang/IllegalArgumentException" ["java/lang/RuntimeException", "java/lang/Exception"]).filter goodWord)
def wsL_doSimulate_r1 : List Cond := [Cond.classLink RL 13 "java/lang/IllegalArgumentException", Cond.constant RL 15 (-9999002), Cond.methodLink RL 16 yX5_simulate, Cond.instanceMethod yX5_simulate, Cond.selects RX5 yX5_simulate yX5_simulate, Cond.initialized RX5, Cond.code yX5_simulate cX5_simulate 4 (some .int), Cond.classLink RX5 40 "java/lang/IllegalArgumentException", Cond.initialized "java/lang/IllegalArgumentException", Cond.fieldLink RX5 19 "GapLines" "state" "LGapLines$State;", Cond.fieldLink RX5 23 "GapLines" "copy" "LGapLines$State;", Cond.fieldLink RX5 224 "GapLines$State" "moves" "I", Cond.methodLink RX5 217 yX3_exists, Cond.instanceMethod yX3_exists, Cond.selects RX3 yX3_exists yX3_exists, Cond.initialized RX3, Cond.code yX3_exists cX3_exists 1 (some .boolean), Cond.fieldLink RX3 25 "GapLines$State" "lines" "I", Cond.methodLink RX5 182 yX3_copyFrom, Cond.instanceMethod yX3_copyFrom, Cond.selects RX3 yX3_copyFrom yX3_copyFrom, Cond.code yX3_copyFrom cX3_copyFrom 2 none, Cond.fieldLink RX3 28 "GapLines$State" "key" "I", Cond.fieldLink RX3 31 "GapLines$State" "start" "I"]
def wsL_doSimulate_r2 : List Cond := [Cond.fieldLink RX3 34 "GapLines$State" "gap" "I", Cond.fieldLink RX3 37 "GapLines$State" "spares" "I", Cond.fieldLink RX3 40 "GapLines$State" "writes" "I", Cond.fieldLink RX3 43 "GapLines$State" "moves" "I", Cond.fieldLink RX3 46 "GapLines$State" "writesSinceMove" "I", Cond.fieldLink RX3 49 "GapLines$State" "replaced" "I", Cond.fieldLink RX3 52 "GapLines$State" "laid" "I", Cond.fieldLink RX3 55 "GapLines$State" "dead" "Z", Cond.fieldLink RX3 9 "GapLines$State" "endurance" "I", Cond.fieldLink RX3 15 "GapLines$State" "every" "I", Cond.fieldLink RX3 18 "GapLines$State" "values" "[I", Cond.methodLink RX3 59 arraycopyName, Cond.native arraycopyName, Cond.static arraycopyName, Cond.initialized "java/lang/System", Cond.fieldLink RX3 22 "GapLines$State" "wears" "[I", Cond.methodLink RX5 220 yX3_writeByChance, Cond.instanceMethod yX3_writeByChance, Cond.selects RX3 yX3_writeByChance yX3_writeByChance, Cond.code yX3_writeByChance cX3_writeByChance 9 none, Cond.constantLong RX3 116 (6364136223846793005), Cond.constantLong RX3 118 (1442695040888963407), Cond.methodLink RX3 112 yX3_exists, Cond.methodLink RX3 109 yX3_writeLine]
def wsL_doSimulate_r3 : List Cond := [Cond.instanceMethod yX3_writeLine, Cond.selects RX3 yX3_writeLine yX3_writeLine, Cond.code yX3_writeLine cX3_writeLine 4 (some .int), Cond.methodLink RX3 85 yX3_hasLine, Cond.instanceMethod yX3_hasLine, Cond.selects RX3 yX3_hasLine yX3_hasLine, Cond.code yX3_hasLine cX3_hasLine 2 (some .boolean), Cond.methodLink RX3 95 yX3_placeOf, Cond.instanceMethod yX3_placeOf, Cond.selects RX3 yX3_placeOf yX3_placeOf, Cond.code yX3_placeOf cX3_placeOf 3 (some .int), Cond.methodLink RX3 92 yX3_rankOf, Cond.instanceMethod yX3_rankOf, Cond.selects RX3 yX3_rankOf yX3_rankOf, Cond.code yX3_rankOf cX3_rankOf 3 (some .int), Cond.methodLink RX3 99 yX3_layAt, Cond.instanceMethod yX3_layAt, Cond.selects RX3 yX3_layAt yX3_layAt, Cond.code yX3_layAt cX3_layAt 2 none, Cond.methodLink RX3 103 yX3_moveGap, Cond.instanceMethod yX3_moveGap, Cond.selects RX3 yX3_moveGap yX3_moveGap, Cond.code yX3_moveGap cX3_moveGap 1 none, Cond.methodLink RX5 227 yX3_greatestWear]
def wsL_doSimulate_r4 : List Cond := [Cond.instanceMethod yX3_greatestWear, Cond.selects RX3 yX3_greatestWear yX3_greatestWear, Cond.code yX3_greatestWear cX3_greatestWear 3 (some .int), Cond.methodLink RX3 76 Lib.Math.max.name, Cond.static Lib.Math.max.name, Cond.initialized "java/lang/Math", Cond.code Lib.Math.max.name Lib.Math.max.code 2 (some .int)]
def wsL_doSimulate : List Cond := .codeWith yL_doSimulate cL_doSimulate 5 (some .int) [(0, 6, 7, 13)] :: ((wsL_doSimulate_r1 ++ (wsL_doSimulate_r2 ++ (wsL_doSimulate_r3 ++ wsL_doSimulate_r4))) ++ wsX50 ++ wsX30 ++ (vx_atS RX5 44 "java/lang/IllegalArgumentException" ["java/lang/RuntimeException", "java/lang/Exception"]).filter goodWord)
def wsL_tryAppend_r1 : List Cond := [Cond.classLink RL 13 "java/lang/IllegalArgumentException", Cond.classLink RL 24 "java/lang/IllegalStateException", Cond.constant RL 15 (-9999002), Cond.constant RL 26 (-9999003), Cond.methodLink RL 20 yX5_append, Cond.instanceMethod yX5_append, Cond.selects RX5 yX5_append yX5_append, Cond.initialized RX5, Cond.code yX5_append cX5_append 2 (some .int), Cond.classLink RX5 40 "java/lang/IllegalArgumentException", Cond.initialized "java/lang/IllegalArgumentException", Cond.classLink RX5 51 "java/lang/IllegalStateException", Cond.initialized "java/lang/IllegalStateException", Cond.fieldLink RX5 10 "GapLines" "text" "LGapLines$Text;", Cond.methodLink RX5 47 yX4_isFull, Cond.instanceMethod yX4_isFull, Cond.selects RX4 yX4_isFull yX4_isFull, Cond.initialized RX4, Cond.code yX4_isFull cX4_isFull 1 (some .boolean), Cond.fieldLink RX4 15 "GapLines$Text" "length" "I", Cond.methodLink RX5 56 yX4_add, Cond.instanceMethod yX4_add, Cond.selects RX4 yX4_add yX4_add, Cond.code yX4_add cX4_add 2 (some .int)]
def wsL_tryAppend_r2 : List Cond := [Cond.fieldLink RX4 11 "GapLines$Text" "signs" "[C", Cond.methodLink RX4 19 yX4_isFull]
def wsL_tryAppend : List Cond := .codeWith yL_tryAppend cL_tryAppend 3 (some .int) [(0, 5, 6, 13), (0, 5, 10, 24)] :: ((wsL_tryAppend_r1 ++ wsL_tryAppend_r2) ++ wsX50 ++ wsX40 ++ (vx_atS RX5 44 "java/lang/IllegalArgumentException" ["java/lang/RuntimeException", "java/lang/Exception"]).filter goodWord ++ (vx_atS RX5 55 "java/lang/IllegalStateException" ["java/lang/RuntimeException", "java/lang/Exception"]).filter goodWord)
def wsL_tryLoad_r1 : List Cond := [Cond.classLink RL 24 "java/lang/IllegalStateException", Cond.constant RL 26 (-9999003), Cond.methodLink RL 27 yX5_load, Cond.instanceMethod yX5_load, Cond.selects RX5 yX5_load yX5_load, Cond.initialized RX5, Cond.code yX5_load cX5_load 1 (some .int), Cond.classLink RX5 51 "java/lang/IllegalStateException", Cond.initialized "java/lang/IllegalStateException", Cond.fieldLink RX5 10 "GapLines" "text" "LGapLines$Text;", Cond.fieldLink RX5 29 "GapLines" "history" "LGapLines$History;", Cond.fieldLink RX5 36 "GapLines" "slots" "LGapLines$Slots;", Cond.fieldLink RX5 19 "GapLines" "state" "LGapLines$State;", Cond.methodLink RX5 64 yX4_firstError, Cond.instanceMethod yX4_firstError, Cond.selects RX4 yX4_firstError yX4_firstError, Cond.initialized RX4, Cond.code yX4_firstError cX4_firstError 4 (some .int), Cond.fieldLink RX4 15 "GapLines$Text" "length" "I", Cond.methodLink RX4 23 yX4_errorInHead, Cond.instanceMethod yX4_errorInHead, Cond.selects RX4 yX4_errorInHead yX4_errorInHead, Cond.code yX4_errorInHead cX4_errorInHead 2 (some .int), Cond.methodLink RX4 34 yX4_signAt]
def wsL_tryLoad_r2 : List Cond := [Cond.instanceMethod yX4_signAt, Cond.selects RX4 yX4_signAt yX4_signAt, Cond.code yX4_signAt cX4_signAt 2 (some .char), Cond.fieldLink RX4 11 "GapLines$Text" "signs" "[C", Cond.methodLink RX4 38 yX4_errorInNumber, Cond.instanceMethod yX4_errorInNumber, Cond.selects RX4 yX4_errorInNumber yX4_errorInNumber, Cond.code yX4_errorInNumber cX4_errorInNumber 9 (some .int), Cond.methodLink RX4 27 yX4_errorInCommand, Cond.instanceMethod yX4_errorInCommand, Cond.selects RX4 yX4_errorInCommand yX4_errorInCommand, Cond.code yX4_errorInCommand cX4_errorInCommand 3 (some .int), Cond.methodLink RX4 31 yX4_commandLength, Cond.instanceMethod yX4_commandLength, Cond.selects RX4 yX4_commandLength yX4_commandLength, Cond.code yX4_commandLength cX4_commandLength 2 (some .int), Cond.methodLink RX5 69 yX0_forgetAll, Cond.instanceMethod yX0_forgetAll, Cond.selects RX0 yX0_forgetAll yX0_forgetAll, Cond.initialized RX0, Cond.code yX0_forgetAll cX0_forgetAll 1 none, Cond.fieldLink RX0 15 "GapLines$History" "size" "I", Cond.methodLink RX5 72 yX2_forgetAll, Cond.instanceMethod yX2_forgetAll]
def wsL_tryLoad_r3 : List Cond := [Cond.selects RX2 yX2_forgetAll yX2_forgetAll, Cond.initialized RX2, Cond.code yX2_forgetAll cX2_forgetAll 2 none, Cond.fieldLink RX2 15 "GapLines$Slots" "filled" "[Z", Cond.methodLink RX5 73 yX3_beginAnew, Cond.instanceMethod yX3_beginAnew, Cond.selects RX3 yX3_beginAnew yX3_beginAnew, Cond.initialized RX3, Cond.code yX3_beginAnew cX3_beginAnew 1 none, Cond.fieldLink RX3 9 "GapLines$State" "endurance" "I", Cond.fieldLink RX3 15 "GapLines$State" "every" "I", Cond.methodLink RX3 65 yX3_begin, Cond.instanceMethod yX3_begin, Cond.selects RX3 yX3_begin yX3_begin, Cond.code yX3_begin cX3_begin 5 none, Cond.fieldLink RX3 25 "GapLines$State" "lines" "I", Cond.fieldLink RX3 28 "GapLines$State" "key" "I", Cond.fieldLink RX3 31 "GapLines$State" "start" "I", Cond.fieldLink RX3 34 "GapLines$State" "gap" "I", Cond.fieldLink RX3 37 "GapLines$State" "spares" "I", Cond.fieldLink RX3 40 "GapLines$State" "writes" "I", Cond.fieldLink RX3 43 "GapLines$State" "moves" "I", Cond.fieldLink RX3 46 "GapLines$State" "writesSinceMove" "I", Cond.fieldLink RX3 49 "GapLines$State" "replaced" "I"]
def wsL_tryLoad_r4 : List Cond := [Cond.fieldLink RX3 52 "GapLines$State" "laid" "I", Cond.fieldLink RX3 55 "GapLines$State" "dead" "Z", Cond.fieldLink RX3 18 "GapLines$State" "values" "[I", Cond.fieldLink RX3 22 "GapLines$State" "wears" "[I", Cond.methodLink RX5 76 yX4_tellTo, Cond.instanceMethod yX4_tellTo, Cond.selects RX4 yX4_tellTo yX4_tellTo, Cond.code yX4_tellTo cX4_tellTo 6 (some .int), Cond.methodLink RX4 42 yX4_numberAt, Cond.instanceMethod yX4_numberAt, Cond.selects RX4 yX4_numberAt yX4_numberAt, Cond.code yX4_numberAt cX4_numberAt 5 (some .int), Cond.static yX5_isShape, Cond.code yX5_isShape cX5_isShape 2 (some .boolean), Cond.methodLink RX5 273 yX5_haveCommonDivisor, Cond.static yX5_haveCommonDivisor, Cond.code yX5_haveCommonDivisor cX5_haveCommonDivisor 3 (some .boolean), Cond.methodLink RX4 50 yX3_begin, Cond.methodLink RX4 56 yX3_doWrite, Cond.instanceMethod yX3_doWrite, Cond.selects RX3 yX3_doWrite yX3_doWrite, Cond.code yX3_doWrite cX3_doWrite 3 (some .boolean), Cond.methodLink RX3 85 yX3_hasLine, Cond.instanceMethod yX3_hasLine]
def wsL_tryLoad_r5 : List Cond := [Cond.selects RX3 yX3_hasLine yX3_hasLine, Cond.code yX3_hasLine cX3_hasLine 2 (some .boolean), Cond.static yX5_isValue, Cond.code yX5_isValue cX5_isValue 1 (some .boolean), Cond.methodLink RX3 109 yX3_writeLine, Cond.instanceMethod yX3_writeLine, Cond.selects RX3 yX3_writeLine yX3_writeLine, Cond.code yX3_writeLine cX3_writeLine 4 (some .int), Cond.methodLink RX3 95 yX3_placeOf, Cond.instanceMethod yX3_placeOf, Cond.selects RX3 yX3_placeOf yX3_placeOf, Cond.code yX3_placeOf cX3_placeOf 3 (some .int), Cond.methodLink RX3 92 yX3_rankOf, Cond.instanceMethod yX3_rankOf, Cond.selects RX3 yX3_rankOf yX3_rankOf, Cond.code yX3_rankOf cX3_rankOf 3 (some .int), Cond.methodLink RX3 99 yX3_layAt, Cond.instanceMethod yX3_layAt, Cond.selects RX3 yX3_layAt yX3_layAt, Cond.code yX3_layAt cX3_layAt 2 none, Cond.methodLink RX3 103 yX3_moveGap, Cond.instanceMethod yX3_moveGap, Cond.selects RX3 yX3_moveGap yX3_moveGap, Cond.code yX3_moveGap cX3_moveGap 1 none]
def wsL_tryLoad_r6 : List Cond := [Cond.methodLink RX4 59 yX3_doHammer, Cond.instanceMethod yX3_doHammer, Cond.selects RX3 yX3_doHammer yX3_doHammer, Cond.code yX3_doHammer cX3_doHammer 3 (some .boolean), Cond.static yX5_isHammered, Cond.code yX5_isHammered cX5_isHammered 1 (some .boolean), Cond.methodLink RX3 126 yX3_hammerLine, Cond.instanceMethod yX3_hammerLine, Cond.selects RX3 yX3_hammerLine yX3_hammerLine, Cond.code yX3_hammerLine cX3_hammerLine 4 (some .int), Cond.methodLink RX3 106 yX3_valueOf, Cond.instanceMethod yX3_valueOf, Cond.selects RX3 yX3_valueOf yX3_valueOf, Cond.code yX3_valueOf cX3_valueOf 2 (some .int), Cond.methodLink RX4 62 yX3_doAll, Cond.instanceMethod yX3_doAll, Cond.selects RX3 yX3_doAll yX3_doAll, Cond.code yX3_doAll cX3_doAll 2 (some .boolean), Cond.static yX5_isRounds, Cond.code yX5_isRounds cX5_isRounds 1 (some .boolean), Cond.methodLink RX3 112 yX3_exists, Cond.instanceMethod yX3_exists, Cond.selects RX3 yX3_exists yX3_exists, Cond.code yX3_exists cX3_exists 1 (some .boolean)]
def wsL_tryLoad_r7 : List Cond := [Cond.methodLink RX3 132 yX3_writeInTurn, Cond.instanceMethod yX3_writeInTurn, Cond.selects RX3 yX3_writeInTurn yX3_writeInTurn, Cond.code yX3_writeInTurn cX3_writeInTurn 4 (some .int)]
def wsL_tryLoad : List Cond := .codeWith yL_tryLoad cL_tryLoad 2 (some .int) [(0, 4, 5, 24)] :: ((wsL_tryLoad_r1 ++ (wsL_tryLoad_r2 ++ (wsL_tryLoad_r3 ++ (wsL_tryLoad_r4 ++ (wsL_tryLoad_r5 ++ (wsL_tryLoad_r6 ++ wsL_tryLoad_r7)))))) ++ wsX50 ++ wsX40 ++ wsX00 ++ wsX20 ++ wsX30 ++ (vx_atS RX5 55 "java/lang/IllegalStateException" ["java/lang/RuntimeException", "java/lang/Exception"]).filter goodWord)
def wsL_tryAbout_r1 : List Cond := [Cond.classLink RL 13 "java/lang/IllegalArgumentException", Cond.constant RL 15 (-9999002), Cond.methodLink RL 31 yX5_about, Cond.instanceMethod yX5_about, Cond.selects RX5 yX5_about yX5_about, Cond.initialized RX5, Cond.code yX5_about cX5_about 2 (some .int), Cond.classLink RX5 40 "java/lang/IllegalArgumentException", Cond.initialized "java/lang/IllegalArgumentException", Cond.fieldLink RX5 19 "GapLines" "state" "LGapLines$State;", Cond.methodLink RX5 82 yX3_number, Cond.instanceMethod yX3_number, Cond.selects RX3 yX3_number yX3_number, Cond.initialized RX3, Cond.code yX3_number cX3_number 2 (some .int), Cond.fieldLink RX3 25 "GapLines$State" "lines" "I", Cond.fieldLink RX3 31 "GapLines$State" "start" "I", Cond.fieldLink RX3 34 "GapLines$State" "gap" "I", Cond.fieldLink RX3 37 "GapLines$State" "spares" "I", Cond.fieldLink RX3 40 "GapLines$State" "writes" "I", Cond.fieldLink RX3 43 "GapLines$State" "moves" "I", Cond.fieldLink RX3 46 "GapLines$State" "writesSinceMove" "I", Cond.fieldLink RX3 55 "GapLines$State" "dead" "Z", Cond.fieldLink RX3 49 "GapLines$State" "replaced" "I"]
def wsL_tryAbout_r2 : List Cond := [Cond.fieldLink RX3 52 "GapLines$State" "laid" "I", Cond.methodLink RX3 69 yX3_greatestWear, Cond.instanceMethod yX3_greatestWear, Cond.selects RX3 yX3_greatestWear yX3_greatestWear, Cond.code yX3_greatestWear cX3_greatestWear 3 (some .int), Cond.fieldLink RX3 22 "GapLines$State" "wears" "[I", Cond.methodLink RX3 76 Lib.Math.max.name, Cond.static Lib.Math.max.name, Cond.initialized "java/lang/Math", Cond.code Lib.Math.max.name Lib.Math.max.code 2 (some .int), Cond.methodLink RX3 73 yX3_leastWear, Cond.instanceMethod yX3_leastWear, Cond.selects RX3 yX3_leastWear yX3_leastWear, Cond.code yX3_leastWear cX3_leastWear 3 (some .int), Cond.methodLink RX3 82 Lib.Math.min.name, Cond.static Lib.Math.min.name, Cond.code Lib.Math.min.name Lib.Math.min.code 2 (some .int)]
def wsL_tryAbout : List Cond := .codeWith yL_tryAbout cL_tryAbout 3 (some .int) [(0, 5, 6, 13)] :: ((wsL_tryAbout_r1 ++ wsL_tryAbout_r2) ++ wsX50 ++ wsX30 ++ (vx_atS RX5 44 "java/lang/IllegalArgumentException" ["java/lang/RuntimeException", "java/lang/Exception"]).filter goodWord)
def wsL_tryRead_r1 : List Cond := [Cond.classLink RL 37 "java/lang/IndexOutOfBoundsException", Cond.constant RL 39 (-9999001), Cond.methodLink RL 34 yX5_read, Cond.instanceMethod yX5_read, Cond.selects RX5 yX5_read yX5_read, Cond.initialized RX5, Cond.code yX5_read cX5_read 2 (some .int), Cond.fieldLink RX5 19 "GapLines" "state" "LGapLines$State;", Cond.methodLink RX5 86 yX5_requireLine, Cond.instanceMethod yX5_requireLine, Cond.selects RX5 yX5_requireLine yX5_requireLine, Cond.code yX5_requireLine cX5_requireLine 2 none, Cond.classLink RX5 249 "java/lang/IndexOutOfBoundsException", Cond.initialized "java/lang/IndexOutOfBoundsException", Cond.methodLink RX5 246 yX3_hasLine, Cond.instanceMethod yX3_hasLine, Cond.selects RX3 yX3_hasLine yX3_hasLine, Cond.initialized RX3, Cond.code yX3_hasLine cX3_hasLine 2 (some .boolean), Cond.fieldLink RX3 25 "GapLines$State" "lines" "I", Cond.methodLink RX5 90 yX3_valueOf, Cond.instanceMethod yX3_valueOf, Cond.selects RX3 yX3_valueOf yX3_valueOf, Cond.code yX3_valueOf cX3_valueOf 2 (some .int)]
def wsL_tryRead_r2 : List Cond := [Cond.fieldLink RX3 18 "GapLines$State" "values" "[I", Cond.methodLink RX3 85 yX3_hasLine]
def wsL_tryRead : List Cond := .codeWith yL_tryRead cL_tryRead 3 (some .int) [(0, 5, 6, 37)] :: ((wsL_tryRead_r1 ++ wsL_tryRead_r2) ++ wsX50 ++ wsX30 ++ (vx_atS RX5 253 "java/lang/IndexOutOfBoundsException" ["java/lang/RuntimeException", "java/lang/Exception"]).filter goodWord)
def wsL_tryPlace_r1 : List Cond := [Cond.classLink RL 37 "java/lang/IndexOutOfBoundsException", Cond.constant RL 39 (-9999001), Cond.methodLink RL 40 yX5_place, Cond.instanceMethod yX5_place, Cond.selects RX5 yX5_place yX5_place, Cond.initialized RX5, Cond.code yX5_place cX5_place 2 (some .int), Cond.fieldLink RX5 19 "GapLines" "state" "LGapLines$State;", Cond.methodLink RX5 86 yX5_requireLine, Cond.instanceMethod yX5_requireLine, Cond.selects RX5 yX5_requireLine yX5_requireLine, Cond.code yX5_requireLine cX5_requireLine 2 none, Cond.classLink RX5 249 "java/lang/IndexOutOfBoundsException", Cond.initialized "java/lang/IndexOutOfBoundsException", Cond.methodLink RX5 246 yX3_hasLine, Cond.instanceMethod yX3_hasLine, Cond.selects RX3 yX3_hasLine yX3_hasLine, Cond.initialized RX3, Cond.code yX3_hasLine cX3_hasLine 2 (some .boolean), Cond.fieldLink RX3 25 "GapLines$State" "lines" "I", Cond.methodLink RX5 93 yX3_placeOf, Cond.instanceMethod yX3_placeOf, Cond.selects RX3 yX3_placeOf yX3_placeOf, Cond.code yX3_placeOf cX3_placeOf 3 (some .int)]
def wsL_tryPlace_r2 : List Cond := [Cond.fieldLink RX3 31 "GapLines$State" "start" "I", Cond.fieldLink RX3 34 "GapLines$State" "gap" "I", Cond.methodLink RX3 92 yX3_rankOf, Cond.instanceMethod yX3_rankOf, Cond.selects RX3 yX3_rankOf yX3_rankOf, Cond.code yX3_rankOf cX3_rankOf 3 (some .int), Cond.fieldLink RX3 28 "GapLines$State" "key" "I"]
def wsL_tryPlace : List Cond := .codeWith yL_tryPlace cL_tryPlace 3 (some .int) [(0, 5, 6, 37)] :: ((wsL_tryPlace_r1 ++ wsL_tryPlace_r2) ++ wsX50 ++ wsX30 ++ (vx_atS RX5 253 "java/lang/IndexOutOfBoundsException" ["java/lang/RuntimeException", "java/lang/Exception"]).filter goodWord)
def wsL_tryLine_r1 : List Cond := [Cond.classLink RL 37 "java/lang/IndexOutOfBoundsException", Cond.constant RL 39 (-9999001), Cond.methodLink RL 43 yX5_line, Cond.instanceMethod yX5_line, Cond.selects RX5 yX5_line yX5_line, Cond.initialized RX5, Cond.code yX5_line cX5_line 2 (some .int), Cond.fieldLink RX5 19 "GapLines" "state" "LGapLines$State;", Cond.methodLink RX5 96 yX5_requirePlace, Cond.instanceMethod yX5_requirePlace, Cond.selects RX5 yX5_requirePlace yX5_requirePlace, Cond.code yX5_requirePlace cX5_requirePlace 2 none, Cond.classLink RX5 249 "java/lang/IndexOutOfBoundsException", Cond.initialized "java/lang/IndexOutOfBoundsException", Cond.methodLink RX5 254 yX3_hasPlace, Cond.instanceMethod yX3_hasPlace, Cond.selects RX3 yX3_hasPlace yX3_hasPlace, Cond.initialized RX3, Cond.code yX3_hasPlace cX3_hasPlace 2 (some .boolean), Cond.fieldLink RX3 25 "GapLines$State" "lines" "I", Cond.methodLink RX5 99 yX3_lineAt, Cond.instanceMethod yX3_lineAt, Cond.selects RX3 yX3_lineAt yX3_lineAt, Cond.code yX3_lineAt cX3_lineAt 4 (some .int)]
def wsL_tryLine_r2 : List Cond := [Cond.fieldLink RX3 34 "GapLines$State" "gap" "I", Cond.fieldLink RX3 31 "GapLines$State" "start" "I", Cond.methodLink RX3 92 yX3_rankOf, Cond.instanceMethod yX3_rankOf, Cond.selects RX3 yX3_rankOf yX3_rankOf, Cond.code yX3_rankOf cX3_rankOf 3 (some .int), Cond.fieldLink RX3 28 "GapLines$State" "key" "I"]
def wsL_tryLine : List Cond := .codeWith yL_tryLine cL_tryLine 3 (some .int) [(0, 5, 6, 37)] :: ((wsL_tryLine_r1 ++ wsL_tryLine_r2) ++ wsX50 ++ wsX30 ++ (vx_atS RX5 253 "java/lang/IndexOutOfBoundsException" ["java/lang/RuntimeException", "java/lang/Exception"]).filter goodWord)
def wsL_tryWear_r1 : List Cond := [Cond.classLink RL 37 "java/lang/IndexOutOfBoundsException", Cond.constant RL 39 (-9999001), Cond.methodLink RL 46 yX5_wear, Cond.instanceMethod yX5_wear, Cond.selects RX5 yX5_wear yX5_wear, Cond.initialized RX5, Cond.code yX5_wear cX5_wear 2 (some .int), Cond.fieldLink RX5 19 "GapLines" "state" "LGapLines$State;", Cond.methodLink RX5 96 yX5_requirePlace, Cond.instanceMethod yX5_requirePlace, Cond.selects RX5 yX5_requirePlace yX5_requirePlace, Cond.code yX5_requirePlace cX5_requirePlace 2 none, Cond.classLink RX5 249 "java/lang/IndexOutOfBoundsException", Cond.initialized "java/lang/IndexOutOfBoundsException", Cond.methodLink RX5 254 yX3_hasPlace, Cond.instanceMethod yX3_hasPlace, Cond.selects RX3 yX3_hasPlace yX3_hasPlace, Cond.initialized RX3, Cond.code yX3_hasPlace cX3_hasPlace 2 (some .boolean), Cond.fieldLink RX3 25 "GapLines$State" "lines" "I", Cond.methodLink RX5 102 yX3_wearOf, Cond.instanceMethod yX3_wearOf, Cond.selects RX3 yX3_wearOf yX3_wearOf, Cond.code yX3_wearOf cX3_wearOf 2 (some .int)]
def wsL_tryWear_r2 : List Cond := [Cond.fieldLink RX3 22 "GapLines$State" "wears" "[I", Cond.methodLink RX3 89 yX3_hasPlace]
def wsL_tryWear : List Cond := .codeWith yL_tryWear cL_tryWear 3 (some .int) [(0, 5, 6, 37)] :: ((wsL_tryWear_r1 ++ wsL_tryWear_r2) ++ wsX50 ++ wsX30 ++ (vx_atS RX5 253 "java/lang/IndexOutOfBoundsException" ["java/lang/RuntimeException", "java/lang/Exception"]).filter goodWord)
def wsL_trySetting : List Cond := .codeWith yL_trySetting cL_trySetting 3 (some .int) [(0, 5, 6, 13)] :: ([.classLink RL 13 "java/lang/IllegalArgumentException", .constant RL 15 (-9999002), .methodLink RL 49 yX5_setting, .instanceMethod yX5_setting, .selects RX5 yX5_setting yX5_setting, .initialized RX5, .code yX5_setting cX5_setting 2 (some .int), .fieldLink RX5 19 "GapLines" "state" "LGapLines$State;", .methodLink RX5 105 yX5_requireSetting, .static yX5_requireSetting, .code yX5_requireSetting cX5_requireSetting 1 none, .classLink RX5 40 "java/lang/IllegalArgumentException", .initialized "java/lang/IllegalArgumentException", .methodLink RX5 108 yX3_settingOf, .instanceMethod yX3_settingOf, .selects RX3 yX3_settingOf yX3_settingOf, .initialized RX3, .code yX3_settingOf cX3_settingOf 2 (some .int), .fieldLink RX3 9 "GapLines$State" "endurance" "I", .fieldLink RX3 15 "GapLines$State" "every" "I"] ++ wsX50 ++ wsX30 ++ (vx_atS RX5 44 "java/lang/IllegalArgumentException" ["java/lang/RuntimeException", "java/lang/Exception"]).filter goodWord)
def wsL_tryMake_r1 : List Cond := [Cond.classLink RL 13 "java/lang/IllegalArgumentException", Cond.constant RL 15 (-9999002), Cond.methodLink RL 52 yX5_make, Cond.instanceMethod yX5_make, Cond.selects RX5 yX5_make yX5_make, Cond.initialized RX5, Cond.code yX5_make cX5_make 4 (some .int), Cond.classLink RX5 40 "java/lang/IllegalArgumentException", Cond.initialized "java/lang/IllegalArgumentException", Cond.fieldLink RX5 29 "GapLines" "history" "LGapLines$History;", Cond.fieldLink RX5 19 "GapLines" "state" "LGapLines$State;", Cond.methodLink RX5 111 yX5_isShape, Cond.static yX5_isShape, Cond.code yX5_isShape cX5_isShape 2 (some .boolean), Cond.methodLink RX5 273 yX5_haveCommonDivisor, Cond.static yX5_haveCommonDivisor, Cond.code yX5_haveCommonDivisor cX5_haveCommonDivisor 3 (some .boolean), Cond.methodLink RX5 119 yX0_remember, Cond.instanceMethod yX0_remember, Cond.selects RX0 yX0_remember yX0_remember, Cond.initialized RX0, Cond.code yX0_remember cX0_remember 2 none, Cond.fieldLink RX0 11 "GapLines$History" "states" "[LGapLines$State;", Cond.fieldLink RX0 19 "GapLines$History" "next" "I"]
def wsL_tryMake_r2 : List Cond := [Cond.classLink RX0 9 RX3, Cond.instantiable RX3 15, Cond.initialized RX3, Cond.fieldLink RX0 15 "GapLines$History" "size" "I", Cond.methodLink RX0 27 Lib.Math.min.name, Cond.static Lib.Math.min.name, Cond.initialized "java/lang/Math", Cond.code Lib.Math.min.name Lib.Math.min.code 2 (some .int), Cond.instanceMethod yX3_init, Cond.code yX3_init cX3_init 1 none, Cond.methodLink RX3 3 objectInit, Cond.instanceMethod objectInit, Cond.code objectInit ⟨#[0xb1]⟩ 1 none, Cond.fieldLink RX3 9 "GapLines$State" "endurance" "I", Cond.fieldLink RX3 15 "GapLines$State" "every" "I", Cond.arrayClass .int, Cond.fieldLink RX3 18 "GapLines$State" "values" "[I", Cond.fieldLink RX3 22 "GapLines$State" "wears" "[I", Cond.methodLink RX0 23 yX3_copyFrom, Cond.instanceMethod yX3_copyFrom, Cond.selects RX3 yX3_copyFrom yX3_copyFrom, Cond.code yX3_copyFrom cX3_copyFrom 2 none, Cond.fieldLink RX3 25 "GapLines$State" "lines" "I", Cond.fieldLink RX3 28 "GapLines$State" "key" "I"]
def wsL_tryMake_r3 : List Cond := [Cond.fieldLink RX3 31 "GapLines$State" "start" "I", Cond.fieldLink RX3 34 "GapLines$State" "gap" "I", Cond.fieldLink RX3 37 "GapLines$State" "spares" "I", Cond.fieldLink RX3 40 "GapLines$State" "writes" "I", Cond.fieldLink RX3 43 "GapLines$State" "moves" "I", Cond.fieldLink RX3 46 "GapLines$State" "writesSinceMove" "I", Cond.fieldLink RX3 49 "GapLines$State" "replaced" "I", Cond.fieldLink RX3 52 "GapLines$State" "laid" "I", Cond.fieldLink RX3 55 "GapLines$State" "dead" "Z", Cond.methodLink RX3 59 arraycopyName, Cond.native arraycopyName, Cond.static arraycopyName, Cond.initialized "java/lang/System", Cond.methodLink RX5 123 yX3_begin, Cond.instanceMethod yX3_begin, Cond.selects RX3 yX3_begin yX3_begin, Cond.code yX3_begin cX3_begin 5 none, Cond.methodLink RX5 93 yX3_placeOf, Cond.instanceMethod yX3_placeOf, Cond.selects RX3 yX3_placeOf yX3_placeOf, Cond.code yX3_placeOf cX3_placeOf 3 (some .int), Cond.methodLink RX3 92 yX3_rankOf, Cond.instanceMethod yX3_rankOf, Cond.selects RX3 yX3_rankOf yX3_rankOf]
def wsL_tryMake_r4 : List Cond := [Cond.code yX3_rankOf cX3_rankOf 3 (some .int)]
def wsL_tryMake : List Cond := .codeWith yL_tryMake cL_tryMake 5 (some .int) [(0, 7, 8, 13)] :: ((wsL_tryMake_r1 ++ (wsL_tryMake_r2 ++ (wsL_tryMake_r3 ++ wsL_tryMake_r4))) ++ wsX50 ++ wsX00 ++ wsX30 ++ (vx_atS RX5 44 "java/lang/IllegalArgumentException" ["java/lang/RuntimeException", "java/lang/Exception"]).filter goodWord)
def wsL_tryWrite_r1 : List Cond := [Cond.classLink RL 37 "java/lang/IndexOutOfBoundsException", Cond.classLink RL 13 "java/lang/IllegalArgumentException", Cond.classLink RL 24 "java/lang/IllegalStateException", Cond.constant RL 39 (-9999001), Cond.constant RL 15 (-9999002), Cond.constant RL 26 (-9999003), Cond.methodLink RL 56 yX5_write, Cond.instanceMethod yX5_write, Cond.selects RX5 yX5_write yX5_write, Cond.initialized RX5, Cond.code yX5_write cX5_write 3 (some .int), Cond.classLink RX5 40 "java/lang/IllegalArgumentException", Cond.initialized "java/lang/IllegalArgumentException", Cond.classLink RX5 51 "java/lang/IllegalStateException", Cond.initialized "java/lang/IllegalStateException", Cond.fieldLink RX5 19 "GapLines" "state" "LGapLines$State;", Cond.fieldLink RX5 133 "GapLines$State" "dead" "Z", Cond.fieldLink RX5 29 "GapLines" "history" "LGapLines$History;", Cond.methodLink RX5 86 yX5_requireLine, Cond.instanceMethod yX5_requireLine, Cond.selects RX5 yX5_requireLine yX5_requireLine, Cond.code yX5_requireLine cX5_requireLine 2 none, Cond.classLink RX5 249 "java/lang/IndexOutOfBoundsException", Cond.initialized "java/lang/IndexOutOfBoundsException"]
def wsL_tryWrite_r2 : List Cond := [Cond.methodLink RX5 246 yX3_hasLine, Cond.instanceMethod yX3_hasLine, Cond.selects RX3 yX3_hasLine yX3_hasLine, Cond.initialized RX3, Cond.code yX3_hasLine cX3_hasLine 2 (some .boolean), Cond.fieldLink RX3 25 "GapLines$State" "lines" "I", Cond.methodLink RX5 127 yX5_isValue, Cond.static yX5_isValue, Cond.code yX5_isValue cX5_isValue 1 (some .boolean), Cond.methodLink RX5 119 yX0_remember, Cond.instanceMethod yX0_remember, Cond.selects RX0 yX0_remember yX0_remember, Cond.initialized RX0, Cond.code yX0_remember cX0_remember 2 none, Cond.fieldLink RX0 11 "GapLines$History" "states" "[LGapLines$State;", Cond.fieldLink RX0 19 "GapLines$History" "next" "I", Cond.classLink RX0 9 RX3, Cond.instantiable RX3 15, Cond.fieldLink RX0 15 "GapLines$History" "size" "I", Cond.methodLink RX0 27 Lib.Math.min.name, Cond.static Lib.Math.min.name, Cond.initialized "java/lang/Math", Cond.code Lib.Math.min.name Lib.Math.min.code 2 (some .int), Cond.instanceMethod yX3_init]
def wsL_tryWrite_r3 : List Cond := [Cond.code yX3_init cX3_init 1 none, Cond.methodLink RX3 3 objectInit, Cond.instanceMethod objectInit, Cond.code objectInit ⟨#[0xb1]⟩ 1 none, Cond.fieldLink RX3 9 "GapLines$State" "endurance" "I", Cond.fieldLink RX3 15 "GapLines$State" "every" "I", Cond.arrayClass .int, Cond.fieldLink RX3 18 "GapLines$State" "values" "[I", Cond.fieldLink RX3 22 "GapLines$State" "wears" "[I", Cond.methodLink RX0 23 yX3_copyFrom, Cond.instanceMethod yX3_copyFrom, Cond.selects RX3 yX3_copyFrom yX3_copyFrom, Cond.code yX3_copyFrom cX3_copyFrom 2 none, Cond.fieldLink RX3 28 "GapLines$State" "key" "I", Cond.fieldLink RX3 31 "GapLines$State" "start" "I", Cond.fieldLink RX3 34 "GapLines$State" "gap" "I", Cond.fieldLink RX3 37 "GapLines$State" "spares" "I", Cond.fieldLink RX3 40 "GapLines$State" "writes" "I", Cond.fieldLink RX3 43 "GapLines$State" "moves" "I", Cond.fieldLink RX3 46 "GapLines$State" "writesSinceMove" "I", Cond.fieldLink RX3 49 "GapLines$State" "replaced" "I", Cond.fieldLink RX3 52 "GapLines$State" "laid" "I", Cond.fieldLink RX3 55 "GapLines$State" "dead" "Z", Cond.methodLink RX3 59 arraycopyName]
def wsL_tryWrite_r4 : List Cond := [Cond.native arraycopyName, Cond.static arraycopyName, Cond.initialized "java/lang/System", Cond.methodLink RX5 139 yX3_writeLine, Cond.instanceMethod yX3_writeLine, Cond.selects RX3 yX3_writeLine yX3_writeLine, Cond.code yX3_writeLine cX3_writeLine 4 (some .int), Cond.methodLink RX3 85 yX3_hasLine, Cond.methodLink RX3 95 yX3_placeOf, Cond.instanceMethod yX3_placeOf, Cond.selects RX3 yX3_placeOf yX3_placeOf, Cond.code yX3_placeOf cX3_placeOf 3 (some .int), Cond.methodLink RX3 92 yX3_rankOf, Cond.instanceMethod yX3_rankOf, Cond.selects RX3 yX3_rankOf yX3_rankOf, Cond.code yX3_rankOf cX3_rankOf 3 (some .int), Cond.methodLink RX3 99 yX3_layAt, Cond.instanceMethod yX3_layAt, Cond.selects RX3 yX3_layAt yX3_layAt, Cond.code yX3_layAt cX3_layAt 2 none, Cond.methodLink RX3 103 yX3_moveGap, Cond.instanceMethod yX3_moveGap, Cond.selects RX3 yX3_moveGap yX3_moveGap, Cond.code yX3_moveGap cX3_moveGap 1 none]
def wsL_tryWrite : List Cond := .codeWith yL_tryWrite cL_tryWrite 4 (some .int) [(0, 6, 7, 37), (0, 6, 11, 13), (0, 6, 15, 24)] :: ((wsL_tryWrite_r1 ++ (wsL_tryWrite_r2 ++ (wsL_tryWrite_r3 ++ wsL_tryWrite_r4))) ++ wsX50 ++ wsX30 ++ wsX00 ++ (vx_atS RX5 44 "java/lang/IllegalArgumentException" ["java/lang/RuntimeException", "java/lang/Exception"]).filter goodWord ++ (vx_atS RX5 55 "java/lang/IllegalStateException" ["java/lang/RuntimeException", "java/lang/Exception"]).filter goodWord ++ (vx_atS RX5 253 "java/lang/IndexOutOfBoundsException" ["java/lang/RuntimeException", "java/lang/Exception"]).filter goodWord)
def wsL_tryHammer_r1 : List Cond := [Cond.classLink RL 37 "java/lang/IndexOutOfBoundsException", Cond.classLink RL 13 "java/lang/IllegalArgumentException", Cond.constant RL 39 (-9999001), Cond.constant RL 15 (-9999002), Cond.methodLink RL 60 yX5_hammer, Cond.instanceMethod yX5_hammer, Cond.selects RX5 yX5_hammer yX5_hammer, Cond.initialized RX5, Cond.code yX5_hammer cX5_hammer 3 (some .int), Cond.fieldLink RX5 29 "GapLines" "history" "LGapLines$History;", Cond.fieldLink RX5 19 "GapLines" "state" "LGapLines$State;", Cond.methodLink RX5 86 yX5_requireLine, Cond.instanceMethod yX5_requireLine, Cond.selects RX5 yX5_requireLine yX5_requireLine, Cond.code yX5_requireLine cX5_requireLine 2 none, Cond.classLink RX5 249 "java/lang/IndexOutOfBoundsException", Cond.initialized "java/lang/IndexOutOfBoundsException", Cond.methodLink RX5 246 yX3_hasLine, Cond.instanceMethod yX3_hasLine, Cond.selects RX3 yX3_hasLine yX3_hasLine, Cond.initialized RX3, Cond.code yX3_hasLine cX3_hasLine 2 (some .boolean), Cond.fieldLink RX3 25 "GapLines$State" "lines" "I", Cond.methodLink RX5 143 yX5_requireHammered]
def wsL_tryHammer_r2 : List Cond := [Cond.static yX5_requireHammered, Cond.code yX5_requireHammered cX5_requireHammered 1 none, Cond.classLink RX5 40 "java/lang/IllegalArgumentException", Cond.initialized "java/lang/IllegalArgumentException", Cond.methodLink RX5 263 yX5_isHammered, Cond.static yX5_isHammered, Cond.code yX5_isHammered cX5_isHammered 1 (some .boolean), Cond.methodLink RX5 119 yX0_remember, Cond.instanceMethod yX0_remember, Cond.selects RX0 yX0_remember yX0_remember, Cond.initialized RX0, Cond.code yX0_remember cX0_remember 2 none, Cond.fieldLink RX0 11 "GapLines$History" "states" "[LGapLines$State;", Cond.fieldLink RX0 19 "GapLines$History" "next" "I", Cond.classLink RX0 9 RX3, Cond.instantiable RX3 15, Cond.fieldLink RX0 15 "GapLines$History" "size" "I", Cond.methodLink RX0 27 Lib.Math.min.name, Cond.static Lib.Math.min.name, Cond.initialized "java/lang/Math", Cond.code Lib.Math.min.name Lib.Math.min.code 2 (some .int), Cond.instanceMethod yX3_init, Cond.code yX3_init cX3_init 1 none, Cond.methodLink RX3 3 objectInit]
def wsL_tryHammer_r3 : List Cond := [Cond.instanceMethod objectInit, Cond.code objectInit ⟨#[0xb1]⟩ 1 none, Cond.fieldLink RX3 9 "GapLines$State" "endurance" "I", Cond.fieldLink RX3 15 "GapLines$State" "every" "I", Cond.arrayClass .int, Cond.fieldLink RX3 18 "GapLines$State" "values" "[I", Cond.fieldLink RX3 22 "GapLines$State" "wears" "[I", Cond.methodLink RX0 23 yX3_copyFrom, Cond.instanceMethod yX3_copyFrom, Cond.selects RX3 yX3_copyFrom yX3_copyFrom, Cond.code yX3_copyFrom cX3_copyFrom 2 none, Cond.fieldLink RX3 28 "GapLines$State" "key" "I", Cond.fieldLink RX3 31 "GapLines$State" "start" "I", Cond.fieldLink RX3 34 "GapLines$State" "gap" "I", Cond.fieldLink RX3 37 "GapLines$State" "spares" "I", Cond.fieldLink RX3 40 "GapLines$State" "writes" "I", Cond.fieldLink RX3 43 "GapLines$State" "moves" "I", Cond.fieldLink RX3 46 "GapLines$State" "writesSinceMove" "I", Cond.fieldLink RX3 49 "GapLines$State" "replaced" "I", Cond.fieldLink RX3 52 "GapLines$State" "laid" "I", Cond.fieldLink RX3 55 "GapLines$State" "dead" "Z", Cond.methodLink RX3 59 arraycopyName, Cond.native arraycopyName, Cond.static arraycopyName]
def wsL_tryHammer_r4 : List Cond := [Cond.initialized "java/lang/System", Cond.methodLink RX5 146 yX3_hammerLine, Cond.instanceMethod yX3_hammerLine, Cond.selects RX3 yX3_hammerLine yX3_hammerLine, Cond.code yX3_hammerLine cX3_hammerLine 4 (some .int), Cond.methodLink RX3 106 yX3_valueOf, Cond.instanceMethod yX3_valueOf, Cond.selects RX3 yX3_valueOf yX3_valueOf, Cond.code yX3_valueOf cX3_valueOf 2 (some .int), Cond.methodLink RX3 85 yX3_hasLine, Cond.methodLink RX3 109 yX3_writeLine, Cond.instanceMethod yX3_writeLine, Cond.selects RX3 yX3_writeLine yX3_writeLine, Cond.code yX3_writeLine cX3_writeLine 4 (some .int), Cond.methodLink RX3 95 yX3_placeOf, Cond.instanceMethod yX3_placeOf, Cond.selects RX3 yX3_placeOf yX3_placeOf, Cond.code yX3_placeOf cX3_placeOf 3 (some .int), Cond.methodLink RX3 92 yX3_rankOf, Cond.instanceMethod yX3_rankOf, Cond.selects RX3 yX3_rankOf yX3_rankOf, Cond.code yX3_rankOf cX3_rankOf 3 (some .int), Cond.methodLink RX3 99 yX3_layAt, Cond.instanceMethod yX3_layAt]
def wsL_tryHammer_r5 : List Cond := [Cond.selects RX3 yX3_layAt yX3_layAt, Cond.code yX3_layAt cX3_layAt 2 none, Cond.methodLink RX3 103 yX3_moveGap, Cond.instanceMethod yX3_moveGap, Cond.selects RX3 yX3_moveGap yX3_moveGap, Cond.code yX3_moveGap cX3_moveGap 1 none]
def wsL_tryHammer : List Cond := .codeWith yL_tryHammer cL_tryHammer 4 (some .int) [(0, 6, 7, 37), (0, 6, 11, 13)] :: ((wsL_tryHammer_r1 ++ (wsL_tryHammer_r2 ++ (wsL_tryHammer_r3 ++ (wsL_tryHammer_r4 ++ wsL_tryHammer_r5)))) ++ wsX50 ++ wsX30 ++ wsX00 ++ (vx_atS RX5 253 "java/lang/IndexOutOfBoundsException" ["java/lang/RuntimeException", "java/lang/Exception"]).filter goodWord ++ (vx_atS RX5 44 "java/lang/IllegalArgumentException" ["java/lang/RuntimeException", "java/lang/Exception"]).filter goodWord)
def wsL_tryAll_r1 : List Cond := [Cond.classLink RL 13 "java/lang/IllegalArgumentException", Cond.classLink RL 24 "java/lang/IllegalStateException", Cond.constant RL 15 (-9999002), Cond.constant RL 26 (-9999003), Cond.methodLink RL 63 yX5_all, Cond.instanceMethod yX5_all, Cond.selects RX5 yX5_all yX5_all, Cond.initialized RX5, Cond.code yX5_all cX5_all 2 (some .int), Cond.classLink RX5 40 "java/lang/IllegalArgumentException", Cond.initialized "java/lang/IllegalArgumentException", Cond.fieldLink RX5 29 "GapLines" "history" "LGapLines$History;", Cond.fieldLink RX5 19 "GapLines" "state" "LGapLines$State;", Cond.fieldLink RX5 157 "GapLines$State" "lines" "I", Cond.methodLink RX5 149 yX5_isRounds, Cond.static yX5_isRounds, Cond.code yX5_isRounds cX5_isRounds 1 (some .boolean), Cond.methodLink RX5 154 yX5_requireStore, Cond.instanceMethod yX5_requireStore, Cond.selects RX5 yX5_requireStore yX5_requireStore, Cond.code yX5_requireStore cX5_requireStore 1 none, Cond.classLink RX5 51 "java/lang/IllegalStateException", Cond.initialized "java/lang/IllegalStateException", Cond.methodLink RX5 217 yX3_exists]
def wsL_tryAll_r2 : List Cond := [Cond.instanceMethod yX3_exists, Cond.selects RX3 yX3_exists yX3_exists, Cond.initialized RX3, Cond.code yX3_exists cX3_exists 1 (some .boolean), Cond.fieldLink RX3 25 "GapLines$State" "lines" "I", Cond.methodLink RX5 119 yX0_remember, Cond.instanceMethod yX0_remember, Cond.selects RX0 yX0_remember yX0_remember, Cond.initialized RX0, Cond.code yX0_remember cX0_remember 2 none, Cond.fieldLink RX0 11 "GapLines$History" "states" "[LGapLines$State;", Cond.fieldLink RX0 19 "GapLines$History" "next" "I", Cond.classLink RX0 9 RX3, Cond.instantiable RX3 15, Cond.fieldLink RX0 15 "GapLines$History" "size" "I", Cond.methodLink RX0 27 Lib.Math.min.name, Cond.static Lib.Math.min.name, Cond.initialized "java/lang/Math", Cond.code Lib.Math.min.name Lib.Math.min.code 2 (some .int), Cond.instanceMethod yX3_init, Cond.code yX3_init cX3_init 1 none, Cond.methodLink RX3 3 objectInit, Cond.instanceMethod objectInit, Cond.code objectInit ⟨#[0xb1]⟩ 1 none]
def wsL_tryAll_r3 : List Cond := [Cond.fieldLink RX3 9 "GapLines$State" "endurance" "I", Cond.fieldLink RX3 15 "GapLines$State" "every" "I", Cond.arrayClass .int, Cond.fieldLink RX3 18 "GapLines$State" "values" "[I", Cond.fieldLink RX3 22 "GapLines$State" "wears" "[I", Cond.methodLink RX0 23 yX3_copyFrom, Cond.instanceMethod yX3_copyFrom, Cond.selects RX3 yX3_copyFrom yX3_copyFrom, Cond.code yX3_copyFrom cX3_copyFrom 2 none, Cond.fieldLink RX3 28 "GapLines$State" "key" "I", Cond.fieldLink RX3 31 "GapLines$State" "start" "I", Cond.fieldLink RX3 34 "GapLines$State" "gap" "I", Cond.fieldLink RX3 37 "GapLines$State" "spares" "I", Cond.fieldLink RX3 40 "GapLines$State" "writes" "I", Cond.fieldLink RX3 43 "GapLines$State" "moves" "I", Cond.fieldLink RX3 46 "GapLines$State" "writesSinceMove" "I", Cond.fieldLink RX3 49 "GapLines$State" "replaced" "I", Cond.fieldLink RX3 52 "GapLines$State" "laid" "I", Cond.fieldLink RX3 55 "GapLines$State" "dead" "Z", Cond.methodLink RX3 59 arraycopyName, Cond.native arraycopyName, Cond.static arraycopyName, Cond.initialized "java/lang/System", Cond.methodLink RX5 161 yX3_writeInTurn]
def wsL_tryAll_r4 : List Cond := [Cond.instanceMethod yX3_writeInTurn, Cond.selects RX3 yX3_writeInTurn yX3_writeInTurn, Cond.code yX3_writeInTurn cX3_writeInTurn 4 (some .int), Cond.methodLink RX3 106 yX3_valueOf, Cond.instanceMethod yX3_valueOf, Cond.selects RX3 yX3_valueOf yX3_valueOf, Cond.code yX3_valueOf cX3_valueOf 2 (some .int), Cond.methodLink RX3 85 yX3_hasLine, Cond.instanceMethod yX3_hasLine, Cond.selects RX3 yX3_hasLine yX3_hasLine, Cond.code yX3_hasLine cX3_hasLine 2 (some .boolean), Cond.methodLink RX3 109 yX3_writeLine, Cond.instanceMethod yX3_writeLine, Cond.selects RX3 yX3_writeLine yX3_writeLine, Cond.code yX3_writeLine cX3_writeLine 4 (some .int), Cond.methodLink RX3 95 yX3_placeOf, Cond.instanceMethod yX3_placeOf, Cond.selects RX3 yX3_placeOf yX3_placeOf, Cond.code yX3_placeOf cX3_placeOf 3 (some .int), Cond.methodLink RX3 92 yX3_rankOf, Cond.instanceMethod yX3_rankOf, Cond.selects RX3 yX3_rankOf yX3_rankOf, Cond.code yX3_rankOf cX3_rankOf 3 (some .int), Cond.methodLink RX3 99 yX3_layAt]
def wsL_tryAll_r5 : List Cond := [Cond.instanceMethod yX3_layAt, Cond.selects RX3 yX3_layAt yX3_layAt, Cond.code yX3_layAt cX3_layAt 2 none, Cond.methodLink RX3 103 yX3_moveGap, Cond.instanceMethod yX3_moveGap, Cond.selects RX3 yX3_moveGap yX3_moveGap, Cond.code yX3_moveGap cX3_moveGap 1 none]
def wsL_tryAll : List Cond := .codeWith yL_tryAll cL_tryAll 3 (some .int) [(0, 5, 6, 13), (0, 5, 10, 24)] :: ((wsL_tryAll_r1 ++ (wsL_tryAll_r2 ++ (wsL_tryAll_r3 ++ (wsL_tryAll_r4 ++ wsL_tryAll_r5)))) ++ wsX50 ++ wsX30 ++ wsX00 ++ (vx_atS RX5 44 "java/lang/IllegalArgumentException" ["java/lang/RuntimeException", "java/lang/Exception"]).filter goodWord ++ (vx_atS RX5 55 "java/lang/IllegalStateException" ["java/lang/RuntimeException", "java/lang/Exception"]).filter goodWord)
def wsL_tryLay_r1 : List Cond := [Cond.classLink RL 13 "java/lang/IllegalArgumentException", Cond.constant RL 15 (-9999002), Cond.methodLink RL 66 yX5_set, Cond.instanceMethod yX5_set, Cond.selects RX5 yX5_set yX5_set, Cond.initialized RX5, Cond.code yX5_set cX5_set 4 (some .int), Cond.classLink RX5 40 "java/lang/IllegalArgumentException", Cond.initialized "java/lang/IllegalArgumentException", Cond.fieldLink RX5 29 "GapLines" "history" "LGapLines$History;", Cond.fieldLink RX5 19 "GapLines" "state" "LGapLines$State;", Cond.methodLink RX5 164 yX5_isSettingValue, Cond.static yX5_isSettingValue, Cond.code yX5_isSettingValue cX5_isSettingValue 2 (some .boolean), Cond.methodLink RX5 119 yX0_remember, Cond.instanceMethod yX0_remember, Cond.selects RX0 yX0_remember yX0_remember, Cond.initialized RX0, Cond.code yX0_remember cX0_remember 2 none, Cond.fieldLink RX0 11 "GapLines$History" "states" "[LGapLines$State;", Cond.fieldLink RX0 19 "GapLines$History" "next" "I", Cond.classLink RX0 9 RX3, Cond.instantiable RX3 15, Cond.initialized RX3]
def wsL_tryLay_r2 : List Cond := [Cond.fieldLink RX0 15 "GapLines$History" "size" "I", Cond.methodLink RX0 27 Lib.Math.min.name, Cond.static Lib.Math.min.name, Cond.initialized "java/lang/Math", Cond.code Lib.Math.min.name Lib.Math.min.code 2 (some .int), Cond.instanceMethod yX3_init, Cond.code yX3_init cX3_init 1 none, Cond.methodLink RX3 3 objectInit, Cond.instanceMethod objectInit, Cond.code objectInit ⟨#[0xb1]⟩ 1 none, Cond.fieldLink RX3 9 "GapLines$State" "endurance" "I", Cond.fieldLink RX3 15 "GapLines$State" "every" "I", Cond.arrayClass .int, Cond.fieldLink RX3 18 "GapLines$State" "values" "[I", Cond.fieldLink RX3 22 "GapLines$State" "wears" "[I", Cond.methodLink RX0 23 yX3_copyFrom, Cond.instanceMethod yX3_copyFrom, Cond.selects RX3 yX3_copyFrom yX3_copyFrom, Cond.code yX3_copyFrom cX3_copyFrom 2 none, Cond.fieldLink RX3 25 "GapLines$State" "lines" "I", Cond.fieldLink RX3 28 "GapLines$State" "key" "I", Cond.fieldLink RX3 31 "GapLines$State" "start" "I", Cond.fieldLink RX3 34 "GapLines$State" "gap" "I", Cond.fieldLink RX3 37 "GapLines$State" "spares" "I"]
def wsL_tryLay_r3 : List Cond := [Cond.fieldLink RX3 40 "GapLines$State" "writes" "I", Cond.fieldLink RX3 43 "GapLines$State" "moves" "I", Cond.fieldLink RX3 46 "GapLines$State" "writesSinceMove" "I", Cond.fieldLink RX3 49 "GapLines$State" "replaced" "I", Cond.fieldLink RX3 52 "GapLines$State" "laid" "I", Cond.fieldLink RX3 55 "GapLines$State" "dead" "Z", Cond.methodLink RX3 59 arraycopyName, Cond.native arraycopyName, Cond.static arraycopyName, Cond.initialized "java/lang/System", Cond.methodLink RX5 108 yX3_settingOf, Cond.instanceMethod yX3_settingOf, Cond.selects RX3 yX3_settingOf yX3_settingOf, Cond.code yX3_settingOf cX3_settingOf 2 (some .int), Cond.methodLink RX5 169 yX3_changeSetting, Cond.instanceMethod yX3_changeSetting, Cond.selects RX3 yX3_changeSetting yX3_changeSetting, Cond.code yX3_changeSetting cX3_changeSetting 3 none]
def wsL_tryLay : List Cond := .codeWith yL_tryLay cL_tryLay 4 (some .int) [(0, 6, 7, 13)] :: ((wsL_tryLay_r1 ++ (wsL_tryLay_r2 ++ wsL_tryLay_r3)) ++ wsX50 ++ wsX00 ++ wsX30 ++ (vx_atS RX5 44 "java/lang/IllegalArgumentException" ["java/lang/RuntimeException", "java/lang/Exception"]).filter goodWord)
def wsL_tryUndo_r1 : List Cond := [Cond.classLink RL 24 "java/lang/IllegalStateException", Cond.constant RL 26 (-9999003), Cond.methodLink RL 69 yX5_undo, Cond.instanceMethod yX5_undo, Cond.selects RX5 yX5_undo yX5_undo, Cond.initialized RX5, Cond.code yX5_undo cX5_undo 1 (some .int), Cond.classLink RX5 51 "java/lang/IllegalStateException", Cond.initialized "java/lang/IllegalStateException", Cond.fieldLink RX5 29 "GapLines" "history" "LGapLines$History;", Cond.fieldLink RX5 19 "GapLines" "state" "LGapLines$State;", Cond.methodLink RX5 173 yX0_takeBack, Cond.instanceMethod yX0_takeBack, Cond.selects RX0 yX0_takeBack yX0_takeBack, Cond.initialized RX0, Cond.code yX0_takeBack cX0_takeBack 3 (some .boolean), Cond.fieldLink RX0 19 "GapLines$History" "next" "I", Cond.fieldLink RX0 15 "GapLines$History" "size" "I", Cond.fieldLink RX0 11 "GapLines$History" "states" "[LGapLines$State;", Cond.methodLink RX0 23 yX3_copyFrom, Cond.instanceMethod yX3_copyFrom, Cond.selects RX3 yX3_copyFrom yX3_copyFrom, Cond.initialized RX3, Cond.code yX3_copyFrom cX3_copyFrom 2 none]
def wsL_tryUndo_r2 : List Cond := [Cond.fieldLink RX3 25 "GapLines$State" "lines" "I", Cond.fieldLink RX3 28 "GapLines$State" "key" "I", Cond.fieldLink RX3 31 "GapLines$State" "start" "I", Cond.fieldLink RX3 34 "GapLines$State" "gap" "I", Cond.fieldLink RX3 37 "GapLines$State" "spares" "I", Cond.fieldLink RX3 40 "GapLines$State" "writes" "I", Cond.fieldLink RX3 43 "GapLines$State" "moves" "I", Cond.fieldLink RX3 46 "GapLines$State" "writesSinceMove" "I", Cond.fieldLink RX3 49 "GapLines$State" "replaced" "I", Cond.fieldLink RX3 52 "GapLines$State" "laid" "I", Cond.fieldLink RX3 55 "GapLines$State" "dead" "Z", Cond.fieldLink RX3 9 "GapLines$State" "endurance" "I", Cond.fieldLink RX3 15 "GapLines$State" "every" "I", Cond.fieldLink RX3 18 "GapLines$State" "values" "[I", Cond.methodLink RX3 59 arraycopyName, Cond.native arraycopyName, Cond.static arraycopyName, Cond.initialized "java/lang/System", Cond.fieldLink RX3 22 "GapLines$State" "wears" "[I", Cond.methodLink RX5 179 yX0_size, Cond.instanceMethod yX0_size, Cond.selects RX0 yX0_size yX0_size, Cond.code yX0_size cX0_size 1 (some .int)]
def wsL_tryUndo : List Cond := .codeWith yL_tryUndo cL_tryUndo 2 (some .int) [(0, 4, 5, 24)] :: ((wsL_tryUndo_r1 ++ wsL_tryUndo_r2) ++ wsX50 ++ wsX00 ++ wsX30 ++ (vx_atS RX5 55 "java/lang/IllegalStateException" ["java/lang/RuntimeException", "java/lang/Exception"]).filter goodWord)
def wsL_tryLife_r1 : List Cond := [Cond.classLink RL 37 "java/lang/IndexOutOfBoundsException", Cond.constant RL 39 (-9999001), Cond.methodLink RL 72 yX5_life, Cond.instanceMethod yX5_life, Cond.selects RX5 yX5_life yX5_life, Cond.initialized RX5, Cond.code yX5_life cX5_life 2 (some .int), Cond.fieldLink RX5 23 "GapLines" "copy" "LGapLines$State;", Cond.fieldLink RX5 19 "GapLines" "state" "LGapLines$State;", Cond.methodLink RX5 86 yX5_requireLine, Cond.instanceMethod yX5_requireLine, Cond.selects RX5 yX5_requireLine yX5_requireLine, Cond.code yX5_requireLine cX5_requireLine 2 none, Cond.classLink RX5 249 "java/lang/IndexOutOfBoundsException", Cond.initialized "java/lang/IndexOutOfBoundsException", Cond.methodLink RX5 246 yX3_hasLine, Cond.instanceMethod yX3_hasLine, Cond.selects RX3 yX3_hasLine yX3_hasLine, Cond.initialized RX3, Cond.code yX3_hasLine cX3_hasLine 2 (some .boolean), Cond.fieldLink RX3 25 "GapLines$State" "lines" "I", Cond.methodLink RX5 182 yX3_copyFrom, Cond.instanceMethod yX3_copyFrom, Cond.selects RX3 yX3_copyFrom yX3_copyFrom]
def wsL_tryLife_r2 : List Cond := [Cond.code yX3_copyFrom cX3_copyFrom 2 none, Cond.fieldLink RX3 28 "GapLines$State" "key" "I", Cond.fieldLink RX3 31 "GapLines$State" "start" "I", Cond.fieldLink RX3 34 "GapLines$State" "gap" "I", Cond.fieldLink RX3 37 "GapLines$State" "spares" "I", Cond.fieldLink RX3 40 "GapLines$State" "writes" "I", Cond.fieldLink RX3 43 "GapLines$State" "moves" "I", Cond.fieldLink RX3 46 "GapLines$State" "writesSinceMove" "I", Cond.fieldLink RX3 49 "GapLines$State" "replaced" "I", Cond.fieldLink RX3 52 "GapLines$State" "laid" "I", Cond.fieldLink RX3 55 "GapLines$State" "dead" "Z", Cond.fieldLink RX3 9 "GapLines$State" "endurance" "I", Cond.fieldLink RX3 15 "GapLines$State" "every" "I", Cond.fieldLink RX3 18 "GapLines$State" "values" "[I", Cond.methodLink RX3 59 arraycopyName, Cond.native arraycopyName, Cond.static arraycopyName, Cond.initialized "java/lang/System", Cond.fieldLink RX3 22 "GapLines$State" "wears" "[I", Cond.methodLink RX5 146 yX3_hammerLine, Cond.instanceMethod yX3_hammerLine, Cond.selects RX3 yX3_hammerLine yX3_hammerLine, Cond.code yX3_hammerLine cX3_hammerLine 4 (some .int), Cond.methodLink RX3 106 yX3_valueOf]
def wsL_tryLife_r3 : List Cond := [Cond.instanceMethod yX3_valueOf, Cond.selects RX3 yX3_valueOf yX3_valueOf, Cond.code yX3_valueOf cX3_valueOf 2 (some .int), Cond.methodLink RX3 85 yX3_hasLine, Cond.methodLink RX3 109 yX3_writeLine, Cond.instanceMethod yX3_writeLine, Cond.selects RX3 yX3_writeLine yX3_writeLine, Cond.code yX3_writeLine cX3_writeLine 4 (some .int), Cond.methodLink RX3 95 yX3_placeOf, Cond.instanceMethod yX3_placeOf, Cond.selects RX3 yX3_placeOf yX3_placeOf, Cond.code yX3_placeOf cX3_placeOf 3 (some .int), Cond.methodLink RX3 92 yX3_rankOf, Cond.instanceMethod yX3_rankOf, Cond.selects RX3 yX3_rankOf yX3_rankOf, Cond.code yX3_rankOf cX3_rankOf 3 (some .int), Cond.methodLink RX3 99 yX3_layAt, Cond.instanceMethod yX3_layAt, Cond.selects RX3 yX3_layAt yX3_layAt, Cond.code yX3_layAt cX3_layAt 2 none, Cond.methodLink RX3 103 yX3_moveGap, Cond.instanceMethod yX3_moveGap, Cond.selects RX3 yX3_moveGap yX3_moveGap, Cond.code yX3_moveGap cX3_moveGap 1 none]
def wsL_tryLife : List Cond := .codeWith yL_tryLife cL_tryLife 3 (some .int) [(0, 5, 6, 37)] :: ((wsL_tryLife_r1 ++ (wsL_tryLife_r2 ++ wsL_tryLife_r3)) ++ wsX50 ++ wsX30 ++ (vx_atS RX5 253 "java/lang/IndexOutOfBoundsException" ["java/lang/RuntimeException", "java/lang/Exception"]).filter goodWord)
def wsL_tryLong_r1 : List Cond := [Cond.classLink RL 24 "java/lang/IllegalStateException", Cond.constant RL 26 (-9999003), Cond.methodLink RL 75 yX5_lifeOfAll, Cond.instanceMethod yX5_lifeOfAll, Cond.selects RX5 yX5_lifeOfAll yX5_lifeOfAll, Cond.initialized RX5, Cond.code yX5_lifeOfAll cX5_lifeOfAll 1 (some .int), Cond.fieldLink RX5 23 "GapLines" "copy" "LGapLines$State;", Cond.fieldLink RX5 19 "GapLines" "state" "LGapLines$State;", Cond.methodLink RX5 154 yX5_requireStore, Cond.instanceMethod yX5_requireStore, Cond.selects RX5 yX5_requireStore yX5_requireStore, Cond.code yX5_requireStore cX5_requireStore 1 none, Cond.classLink RX5 51 "java/lang/IllegalStateException", Cond.initialized "java/lang/IllegalStateException", Cond.methodLink RX5 217 yX3_exists, Cond.instanceMethod yX3_exists, Cond.selects RX3 yX3_exists yX3_exists, Cond.initialized RX3, Cond.code yX3_exists cX3_exists 1 (some .boolean), Cond.fieldLink RX3 25 "GapLines$State" "lines" "I", Cond.methodLink RX5 182 yX3_copyFrom, Cond.instanceMethod yX3_copyFrom, Cond.selects RX3 yX3_copyFrom yX3_copyFrom]
def wsL_tryLong_r2 : List Cond := [Cond.code yX3_copyFrom cX3_copyFrom 2 none, Cond.fieldLink RX3 28 "GapLines$State" "key" "I", Cond.fieldLink RX3 31 "GapLines$State" "start" "I", Cond.fieldLink RX3 34 "GapLines$State" "gap" "I", Cond.fieldLink RX3 37 "GapLines$State" "spares" "I", Cond.fieldLink RX3 40 "GapLines$State" "writes" "I", Cond.fieldLink RX3 43 "GapLines$State" "moves" "I", Cond.fieldLink RX3 46 "GapLines$State" "writesSinceMove" "I", Cond.fieldLink RX3 49 "GapLines$State" "replaced" "I", Cond.fieldLink RX3 52 "GapLines$State" "laid" "I", Cond.fieldLink RX3 55 "GapLines$State" "dead" "Z", Cond.fieldLink RX3 9 "GapLines$State" "endurance" "I", Cond.fieldLink RX3 15 "GapLines$State" "every" "I", Cond.fieldLink RX3 18 "GapLines$State" "values" "[I", Cond.methodLink RX3 59 arraycopyName, Cond.native arraycopyName, Cond.static arraycopyName, Cond.initialized "java/lang/System", Cond.fieldLink RX3 22 "GapLines$State" "wears" "[I", Cond.methodLink RX5 161 yX3_writeInTurn, Cond.instanceMethod yX3_writeInTurn, Cond.selects RX3 yX3_writeInTurn yX3_writeInTurn, Cond.code yX3_writeInTurn cX3_writeInTurn 4 (some .int), Cond.methodLink RX3 106 yX3_valueOf]
def wsL_tryLong_r3 : List Cond := [Cond.instanceMethod yX3_valueOf, Cond.selects RX3 yX3_valueOf yX3_valueOf, Cond.code yX3_valueOf cX3_valueOf 2 (some .int), Cond.methodLink RX3 85 yX3_hasLine, Cond.instanceMethod yX3_hasLine, Cond.selects RX3 yX3_hasLine yX3_hasLine, Cond.code yX3_hasLine cX3_hasLine 2 (some .boolean), Cond.methodLink RX3 109 yX3_writeLine, Cond.instanceMethod yX3_writeLine, Cond.selects RX3 yX3_writeLine yX3_writeLine, Cond.code yX3_writeLine cX3_writeLine 4 (some .int), Cond.methodLink RX3 95 yX3_placeOf, Cond.instanceMethod yX3_placeOf, Cond.selects RX3 yX3_placeOf yX3_placeOf, Cond.code yX3_placeOf cX3_placeOf 3 (some .int), Cond.methodLink RX3 92 yX3_rankOf, Cond.instanceMethod yX3_rankOf, Cond.selects RX3 yX3_rankOf yX3_rankOf, Cond.code yX3_rankOf cX3_rankOf 3 (some .int), Cond.methodLink RX3 99 yX3_layAt, Cond.instanceMethod yX3_layAt, Cond.selects RX3 yX3_layAt yX3_layAt, Cond.code yX3_layAt cX3_layAt 2 none, Cond.methodLink RX3 103 yX3_moveGap]
def wsL_tryLong_r4 : List Cond := [Cond.instanceMethod yX3_moveGap, Cond.selects RX3 yX3_moveGap yX3_moveGap, Cond.code yX3_moveGap cX3_moveGap 1 none]
def wsL_tryLong : List Cond := .codeWith yL_tryLong cL_tryLong 2 (some .int) [(0, 4, 5, 24)] :: ((wsL_tryLong_r1 ++ (wsL_tryLong_r2 ++ (wsL_tryLong_r3 ++ wsL_tryLong_r4))) ++ wsX50 ++ wsX30 ++ (vx_atS RX5 55 "java/lang/IllegalStateException" ["java/lang/RuntimeException", "java/lang/Exception"]).filter goodWord)
def wsL_tryEvery_r1 : List Cond := [Cond.classLink RL 37 "java/lang/IndexOutOfBoundsException", Cond.classLink RL 13 "java/lang/IllegalArgumentException", Cond.constant RL 39 (-9999001), Cond.constant RL 15 (-9999002), Cond.methodLink RL 78 yX5_ifEvery, Cond.instanceMethod yX5_ifEvery, Cond.selects RX5 yX5_ifEvery yX5_ifEvery, Cond.initialized RX5, Cond.code yX5_ifEvery cX5_ifEvery 4 (some .int), Cond.classLink RX5 40 "java/lang/IllegalArgumentException", Cond.initialized "java/lang/IllegalArgumentException", Cond.methodLink RX5 86 yX5_requireLine, Cond.instanceMethod yX5_requireLine, Cond.selects RX5 yX5_requireLine yX5_requireLine, Cond.code yX5_requireLine cX5_requireLine 2 none, Cond.classLink RX5 249 "java/lang/IndexOutOfBoundsException", Cond.initialized "java/lang/IndexOutOfBoundsException", Cond.fieldLink RX5 19 "GapLines" "state" "LGapLines$State;", Cond.methodLink RX5 246 yX3_hasLine, Cond.instanceMethod yX3_hasLine, Cond.selects RX3 yX3_hasLine yX3_hasLine, Cond.initialized RX3, Cond.code yX3_hasLine cX3_hasLine 2 (some .boolean), Cond.fieldLink RX3 25 "GapLines$State" "lines" "I"]
def wsL_tryEvery_r2 : List Cond := [Cond.methodLink RX5 143 yX5_requireHammered, Cond.static yX5_requireHammered, Cond.code yX5_requireHammered cX5_requireHammered 1 none, Cond.methodLink RX5 263 yX5_isHammered, Cond.static yX5_isHammered, Cond.code yX5_isHammered cX5_isHammered 1 (some .boolean), Cond.methodLink RX5 187 yX5_wearIfEvery, Cond.instanceMethod yX5_wearIfEvery, Cond.selects RX5 yX5_wearIfEvery yX5_wearIfEvery, Cond.code yX5_wearIfEvery cX5_wearIfEvery 4 (some .int), Cond.fieldLink RX5 23 "GapLines" "copy" "LGapLines$State;", Cond.fieldLink RX5 276 "GapLines$State" "every" "I", Cond.methodLink RX5 182 yX3_copyFrom, Cond.instanceMethod yX3_copyFrom, Cond.selects RX3 yX3_copyFrom yX3_copyFrom, Cond.code yX3_copyFrom cX3_copyFrom 2 none, Cond.fieldLink RX3 28 "GapLines$State" "key" "I", Cond.fieldLink RX3 31 "GapLines$State" "start" "I", Cond.fieldLink RX3 34 "GapLines$State" "gap" "I", Cond.fieldLink RX3 37 "GapLines$State" "spares" "I", Cond.fieldLink RX3 40 "GapLines$State" "writes" "I", Cond.fieldLink RX3 43 "GapLines$State" "moves" "I", Cond.fieldLink RX3 46 "GapLines$State" "writesSinceMove" "I", Cond.fieldLink RX3 49 "GapLines$State" "replaced" "I"]
def wsL_tryEvery_r3 : List Cond := [Cond.fieldLink RX3 52 "GapLines$State" "laid" "I", Cond.fieldLink RX3 55 "GapLines$State" "dead" "Z", Cond.fieldLink RX3 9 "GapLines$State" "endurance" "I", Cond.fieldLink RX3 15 "GapLines$State" "every" "I", Cond.fieldLink RX3 18 "GapLines$State" "values" "[I", Cond.methodLink RX3 59 arraycopyName, Cond.native arraycopyName, Cond.static arraycopyName, Cond.initialized "java/lang/System", Cond.fieldLink RX3 22 "GapLines$State" "wears" "[I", Cond.methodLink RX5 146 yX3_hammerLine, Cond.instanceMethod yX3_hammerLine, Cond.selects RX3 yX3_hammerLine yX3_hammerLine, Cond.code yX3_hammerLine cX3_hammerLine 4 (some .int), Cond.methodLink RX3 106 yX3_valueOf, Cond.instanceMethod yX3_valueOf, Cond.selects RX3 yX3_valueOf yX3_valueOf, Cond.code yX3_valueOf cX3_valueOf 2 (some .int), Cond.methodLink RX3 85 yX3_hasLine, Cond.methodLink RX3 109 yX3_writeLine, Cond.instanceMethod yX3_writeLine, Cond.selects RX3 yX3_writeLine yX3_writeLine, Cond.code yX3_writeLine cX3_writeLine 4 (some .int), Cond.methodLink RX3 95 yX3_placeOf]
def wsL_tryEvery_r4 : List Cond := [Cond.instanceMethod yX3_placeOf, Cond.selects RX3 yX3_placeOf yX3_placeOf, Cond.code yX3_placeOf cX3_placeOf 3 (some .int), Cond.methodLink RX3 92 yX3_rankOf, Cond.instanceMethod yX3_rankOf, Cond.selects RX3 yX3_rankOf yX3_rankOf, Cond.code yX3_rankOf cX3_rankOf 3 (some .int), Cond.methodLink RX3 99 yX3_layAt, Cond.instanceMethod yX3_layAt, Cond.selects RX3 yX3_layAt yX3_layAt, Cond.code yX3_layAt cX3_layAt 2 none, Cond.methodLink RX3 103 yX3_moveGap, Cond.instanceMethod yX3_moveGap, Cond.selects RX3 yX3_moveGap yX3_moveGap, Cond.code yX3_moveGap cX3_moveGap 1 none, Cond.methodLink RX5 227 yX3_greatestWear, Cond.instanceMethod yX3_greatestWear, Cond.selects RX3 yX3_greatestWear yX3_greatestWear, Cond.code yX3_greatestWear cX3_greatestWear 3 (some .int), Cond.methodLink RX3 76 Lib.Math.max.name, Cond.static Lib.Math.max.name, Cond.initialized "java/lang/Math", Cond.code Lib.Math.max.name Lib.Math.max.code 2 (some .int)]
def wsL_tryEvery : List Cond := .codeWith yL_tryEvery cL_tryEvery 5 (some .int) [(0, 7, 8, 37), (0, 7, 13, 13)] :: ((wsL_tryEvery_r1 ++ (wsL_tryEvery_r2 ++ (wsL_tryEvery_r3 ++ wsL_tryEvery_r4))) ++ wsX50 ++ wsX30 ++ (vx_atS RX5 44 "java/lang/IllegalArgumentException" ["java/lang/RuntimeException", "java/lang/Exception"]).filter goodWord ++ (vx_atS RX5 253 "java/lang/IndexOutOfBoundsException" ["java/lang/RuntimeException", "java/lang/Exception"]).filter goodWord)
def wsL_tryBest_r1 : List Cond := [Cond.classLink RL 37 "java/lang/IndexOutOfBoundsException", Cond.classLink RL 13 "java/lang/IllegalArgumentException", Cond.constant RL 39 (-9999001), Cond.constant RL 15 (-9999002), Cond.methodLink RL 81 yX5_bestEvery, Cond.instanceMethod yX5_bestEvery, Cond.selects RX5 yX5_bestEvery yX5_bestEvery, Cond.initialized RX5, Cond.code yX5_bestEvery cX5_bestEvery 7 (some .int), Cond.methodLink RX5 86 yX5_requireLine, Cond.instanceMethod yX5_requireLine, Cond.selects RX5 yX5_requireLine yX5_requireLine, Cond.code yX5_requireLine cX5_requireLine 2 none, Cond.classLink RX5 249 "java/lang/IndexOutOfBoundsException", Cond.initialized "java/lang/IndexOutOfBoundsException", Cond.fieldLink RX5 19 "GapLines" "state" "LGapLines$State;", Cond.methodLink RX5 246 yX3_hasLine, Cond.instanceMethod yX3_hasLine, Cond.selects RX3 yX3_hasLine yX3_hasLine, Cond.initialized RX3, Cond.code yX3_hasLine cX3_hasLine 2 (some .boolean), Cond.fieldLink RX3 25 "GapLines$State" "lines" "I", Cond.methodLink RX5 143 yX5_requireHammered, Cond.static yX5_requireHammered]
def wsL_tryBest_r2 : List Cond := [Cond.code yX5_requireHammered cX5_requireHammered 1 none, Cond.classLink RX5 40 "java/lang/IllegalArgumentException", Cond.initialized "java/lang/IllegalArgumentException", Cond.methodLink RX5 263 yX5_isHammered, Cond.static yX5_isHammered, Cond.code yX5_isHammered cX5_isHammered 1 (some .boolean), Cond.methodLink RX5 187 yX5_wearIfEvery, Cond.instanceMethod yX5_wearIfEvery, Cond.selects RX5 yX5_wearIfEvery yX5_wearIfEvery, Cond.code yX5_wearIfEvery cX5_wearIfEvery 4 (some .int), Cond.fieldLink RX5 23 "GapLines" "copy" "LGapLines$State;", Cond.fieldLink RX5 276 "GapLines$State" "every" "I", Cond.methodLink RX5 182 yX3_copyFrom, Cond.instanceMethod yX3_copyFrom, Cond.selects RX3 yX3_copyFrom yX3_copyFrom, Cond.code yX3_copyFrom cX3_copyFrom 2 none, Cond.fieldLink RX3 28 "GapLines$State" "key" "I", Cond.fieldLink RX3 31 "GapLines$State" "start" "I", Cond.fieldLink RX3 34 "GapLines$State" "gap" "I", Cond.fieldLink RX3 37 "GapLines$State" "spares" "I", Cond.fieldLink RX3 40 "GapLines$State" "writes" "I", Cond.fieldLink RX3 43 "GapLines$State" "moves" "I", Cond.fieldLink RX3 46 "GapLines$State" "writesSinceMove" "I", Cond.fieldLink RX3 49 "GapLines$State" "replaced" "I"]
def wsL_tryBest_r3 : List Cond := [Cond.fieldLink RX3 52 "GapLines$State" "laid" "I", Cond.fieldLink RX3 55 "GapLines$State" "dead" "Z", Cond.fieldLink RX3 9 "GapLines$State" "endurance" "I", Cond.fieldLink RX3 15 "GapLines$State" "every" "I", Cond.fieldLink RX3 18 "GapLines$State" "values" "[I", Cond.methodLink RX3 59 arraycopyName, Cond.native arraycopyName, Cond.static arraycopyName, Cond.initialized "java/lang/System", Cond.fieldLink RX3 22 "GapLines$State" "wears" "[I", Cond.methodLink RX5 146 yX3_hammerLine, Cond.instanceMethod yX3_hammerLine, Cond.selects RX3 yX3_hammerLine yX3_hammerLine, Cond.code yX3_hammerLine cX3_hammerLine 4 (some .int), Cond.methodLink RX3 106 yX3_valueOf, Cond.instanceMethod yX3_valueOf, Cond.selects RX3 yX3_valueOf yX3_valueOf, Cond.code yX3_valueOf cX3_valueOf 2 (some .int), Cond.methodLink RX3 85 yX3_hasLine, Cond.methodLink RX3 109 yX3_writeLine, Cond.instanceMethod yX3_writeLine, Cond.selects RX3 yX3_writeLine yX3_writeLine, Cond.code yX3_writeLine cX3_writeLine 4 (some .int), Cond.methodLink RX3 95 yX3_placeOf]
def wsL_tryBest_r4 : List Cond := [Cond.instanceMethod yX3_placeOf, Cond.selects RX3 yX3_placeOf yX3_placeOf, Cond.code yX3_placeOf cX3_placeOf 3 (some .int), Cond.methodLink RX3 92 yX3_rankOf, Cond.instanceMethod yX3_rankOf, Cond.selects RX3 yX3_rankOf yX3_rankOf, Cond.code yX3_rankOf cX3_rankOf 3 (some .int), Cond.methodLink RX3 99 yX3_layAt, Cond.instanceMethod yX3_layAt, Cond.selects RX3 yX3_layAt yX3_layAt, Cond.code yX3_layAt cX3_layAt 2 none, Cond.methodLink RX3 103 yX3_moveGap, Cond.instanceMethod yX3_moveGap, Cond.selects RX3 yX3_moveGap yX3_moveGap, Cond.code yX3_moveGap cX3_moveGap 1 none, Cond.methodLink RX5 227 yX3_greatestWear, Cond.instanceMethod yX3_greatestWear, Cond.selects RX3 yX3_greatestWear yX3_greatestWear, Cond.code yX3_greatestWear cX3_greatestWear 3 (some .int), Cond.methodLink RX3 76 Lib.Math.max.name, Cond.static Lib.Math.max.name, Cond.initialized "java/lang/Math", Cond.code Lib.Math.max.name Lib.Math.max.code 2 (some .int)]
def wsL_tryBest : List Cond := .codeWith yL_tryBest cL_tryBest 4 (some .int) [(0, 6, 7, 37), (0, 6, 11, 13)] :: ((wsL_tryBest_r1 ++ (wsL_tryBest_r2 ++ (wsL_tryBest_r3 ++ wsL_tryBest_r4))) ++ wsX50 ++ wsX30 ++ (vx_atS RX5 253 "java/lang/IndexOutOfBoundsException" ["java/lang/RuntimeException", "java/lang/Exception"]).filter goodWord ++ (vx_atS RX5 44 "java/lang/IllegalArgumentException" ["java/lang/RuntimeException", "java/lang/Exception"]).filter goodWord)
def wsL_tryMoves_r1 : List Cond := [Cond.classLink RL 37 "java/lang/IndexOutOfBoundsException", Cond.constant RL 39 (-9999001), Cond.methodLink RL 84 yX5_movesTo, Cond.instanceMethod yX5_movesTo, Cond.selects RX5 yX5_movesTo yX5_movesTo, Cond.initialized RX5, Cond.code yX5_movesTo cX5_movesTo 2 (some .int), Cond.fieldLink RX5 19 "GapLines" "state" "LGapLines$State;", Cond.methodLink RX5 86 yX5_requireLine, Cond.instanceMethod yX5_requireLine, Cond.selects RX5 yX5_requireLine yX5_requireLine, Cond.code yX5_requireLine cX5_requireLine 2 none, Cond.classLink RX5 249 "java/lang/IndexOutOfBoundsException", Cond.initialized "java/lang/IndexOutOfBoundsException", Cond.methodLink RX5 246 yX3_hasLine, Cond.instanceMethod yX3_hasLine, Cond.selects RX3 yX3_hasLine yX3_hasLine, Cond.initialized RX3, Cond.code yX3_hasLine cX3_hasLine 2 (some .boolean), Cond.fieldLink RX3 25 "GapLines$State" "lines" "I", Cond.methodLink RX5 191 yX3_movesUntilMoved, Cond.instanceMethod yX3_movesUntilMoved, Cond.selects RX3 yX3_movesUntilMoved yX3_movesUntilMoved, Cond.code yX3_movesUntilMoved cX3_movesUntilMoved 3 (some .int)]
def wsL_tryMoves_r2 : List Cond := [Cond.fieldLink RX3 31 "GapLines$State" "start" "I", Cond.fieldLink RX3 34 "GapLines$State" "gap" "I", Cond.methodLink RX3 92 yX3_rankOf, Cond.instanceMethod yX3_rankOf, Cond.selects RX3 yX3_rankOf yX3_rankOf, Cond.code yX3_rankOf cX3_rankOf 3 (some .int), Cond.fieldLink RX3 28 "GapLines$State" "key" "I"]
def wsL_tryMoves : List Cond := .codeWith yL_tryMoves cL_tryMoves 3 (some .int) [(0, 5, 6, 37)] :: ((wsL_tryMoves_r1 ++ wsL_tryMoves_r2) ++ wsX50 ++ wsX30 ++ (vx_atS RX5 253 "java/lang/IndexOutOfBoundsException" ["java/lang/RuntimeException", "java/lang/Exception"]).filter goodWord)
def wsL_tryBehind_r1 : List Cond := [Cond.classLink RL 37 "java/lang/IndexOutOfBoundsException", Cond.classLink RL 13 "java/lang/IllegalArgumentException", Cond.constant RL 39 (-9999001), Cond.constant RL 15 (-9999002), Cond.methodLink RL 87 yX5_placeBehind, Cond.instanceMethod yX5_placeBehind, Cond.selects RX5 yX5_placeBehind yX5_placeBehind, Cond.initialized RX5, Cond.code yX5_placeBehind cX5_placeBehind 3 (some .int), Cond.classLink RX5 40 "java/lang/IllegalArgumentException", Cond.initialized "java/lang/IllegalArgumentException", Cond.fieldLink RX5 19 "GapLines" "state" "LGapLines$State;", Cond.methodLink RX5 86 yX5_requireLine, Cond.instanceMethod yX5_requireLine, Cond.selects RX5 yX5_requireLine yX5_requireLine, Cond.code yX5_requireLine cX5_requireLine 2 none, Cond.classLink RX5 249 "java/lang/IndexOutOfBoundsException", Cond.initialized "java/lang/IndexOutOfBoundsException", Cond.methodLink RX5 246 yX3_hasLine, Cond.instanceMethod yX3_hasLine, Cond.selects RX3 yX3_hasLine yX3_hasLine, Cond.initialized RX3, Cond.code yX3_hasLine cX3_hasLine 2 (some .boolean), Cond.fieldLink RX3 25 "GapLines$State" "lines" "I"]
def wsL_tryBehind_r2 : List Cond := [Cond.methodLink RX5 196 yX3_placeAfterMoves, Cond.instanceMethod yX3_placeAfterMoves, Cond.selects RX3 yX3_placeAfterMoves yX3_placeAfterMoves, Cond.code yX3_placeAfterMoves cX3_placeAfterMoves 7 (some .int), Cond.fieldLink RX3 34 "GapLines$State" "gap" "I", Cond.fieldLink RX3 31 "GapLines$State" "start" "I", Cond.methodLink RX3 85 yX3_hasLine, Cond.methodLink RX3 92 yX3_rankOf, Cond.instanceMethod yX3_rankOf, Cond.selects RX3 yX3_rankOf yX3_rankOf, Cond.code yX3_rankOf cX3_rankOf 3 (some .int), Cond.fieldLink RX3 28 "GapLines$State" "key" "I"]
def wsL_tryBehind : List Cond := .codeWith yL_tryBehind cL_tryBehind 4 (some .int) [(0, 6, 7, 37), (0, 6, 11, 13)] :: ((wsL_tryBehind_r1 ++ wsL_tryBehind_r2) ++ wsX50 ++ wsX30 ++ (vx_atS RX5 44 "java/lang/IllegalArgumentException" ["java/lang/RuntimeException", "java/lang/Exception"]).filter goodWord ++ (vx_atS RX5 253 "java/lang/IndexOutOfBoundsException" ["java/lang/RuntimeException", "java/lang/Exception"]).filter goodWord)
def wsL_tryKeep_r1 : List Cond := [Cond.classLink RL 37 "java/lang/IndexOutOfBoundsException", Cond.constant RL 39 (-9999001), Cond.methodLink RL 90 yX5_save, Cond.instanceMethod yX5_save, Cond.selects RX5 yX5_save yX5_save, Cond.initialized RX5, Cond.code yX5_save cX5_save 2 (some .int), Cond.fieldLink RX5 36 "GapLines" "slots" "LGapLines$Slots;", Cond.fieldLink RX5 19 "GapLines" "state" "LGapLines$State;", Cond.fieldLink RX5 237 "GapLines$State" "writes" "I", Cond.methodLink RX5 230 yX5_requireSlot, Cond.static yX5_requireSlot, Cond.code yX5_requireSlot cX5_requireSlot 1 none, Cond.classLink RX5 249 "java/lang/IndexOutOfBoundsException", Cond.initialized "java/lang/IndexOutOfBoundsException", Cond.methodLink RX5 268 yX2_has, Cond.static yX2_has, Cond.initialized RX2, Cond.code yX2_has cX2_has 1 (some .boolean), Cond.methodLink RX5 233 yX2_keep, Cond.instanceMethod yX2_keep, Cond.selects RX2 yX2_keep yX2_keep, Cond.code yX2_keep cX2_keep 3 none, Cond.fieldLink RX2 11 "GapLines$Slots" "states" "[LGapLines$State;"]
def wsL_tryKeep_r2 : List Cond := [Cond.classLink RX2 9 RX3, Cond.instantiable RX3 15, Cond.initialized RX3, Cond.fieldLink RX2 15 "GapLines$Slots" "filled" "[Z", Cond.methodLink RX2 19 yX2_has, Cond.instanceMethod yX3_init, Cond.code yX3_init cX3_init 1 none, Cond.methodLink RX3 3 objectInit, Cond.instanceMethod objectInit, Cond.code objectInit ⟨#[0xb1]⟩ 1 none, Cond.fieldLink RX3 9 "GapLines$State" "endurance" "I", Cond.fieldLink RX3 15 "GapLines$State" "every" "I", Cond.arrayClass .int, Cond.fieldLink RX3 18 "GapLines$State" "values" "[I", Cond.fieldLink RX3 22 "GapLines$State" "wears" "[I", Cond.methodLink RX2 24 yX3_copyFrom, Cond.instanceMethod yX3_copyFrom, Cond.selects RX3 yX3_copyFrom yX3_copyFrom, Cond.code yX3_copyFrom cX3_copyFrom 2 none, Cond.fieldLink RX3 25 "GapLines$State" "lines" "I", Cond.fieldLink RX3 28 "GapLines$State" "key" "I", Cond.fieldLink RX3 31 "GapLines$State" "start" "I", Cond.fieldLink RX3 34 "GapLines$State" "gap" "I", Cond.fieldLink RX3 37 "GapLines$State" "spares" "I"]
def wsL_tryKeep_r3 : List Cond := [Cond.fieldLink RX3 40 "GapLines$State" "writes" "I", Cond.fieldLink RX3 43 "GapLines$State" "moves" "I", Cond.fieldLink RX3 46 "GapLines$State" "writesSinceMove" "I", Cond.fieldLink RX3 49 "GapLines$State" "replaced" "I", Cond.fieldLink RX3 52 "GapLines$State" "laid" "I", Cond.fieldLink RX3 55 "GapLines$State" "dead" "Z", Cond.methodLink RX3 59 arraycopyName, Cond.native arraycopyName, Cond.static arraycopyName, Cond.initialized "java/lang/System"]
def wsL_tryKeep : List Cond := .codeWith yL_tryKeep cL_tryKeep 3 (some .int) [(0, 5, 6, 37)] :: ((wsL_tryKeep_r1 ++ (wsL_tryKeep_r2 ++ wsL_tryKeep_r3)) ++ wsX50 ++ wsX30 ++ wsX20 ++ (vx_atS RX5 253 "java/lang/IndexOutOfBoundsException" ["java/lang/RuntimeException", "java/lang/Exception"]).filter goodWord)
def wsL_tryBack_r1 : List Cond := [Cond.classLink RL 37 "java/lang/IndexOutOfBoundsException", Cond.classLink RL 24 "java/lang/IllegalStateException", Cond.constant RL 39 (-9999001), Cond.constant RL 26 (-9999003), Cond.methodLink RL 93 yX5_restore, Cond.instanceMethod yX5_restore, Cond.selects RX5 yX5_restore yX5_restore, Cond.initialized RX5, Cond.code yX5_restore cX5_restore 2 (some .int), Cond.classLink RX5 51 "java/lang/IllegalStateException", Cond.initialized "java/lang/IllegalStateException", Cond.fieldLink RX5 36 "GapLines" "slots" "LGapLines$Slots;", Cond.fieldLink RX5 19 "GapLines" "state" "LGapLines$State;", Cond.fieldLink RX5 29 "GapLines" "history" "LGapLines$History;", Cond.fieldLink RX5 237 "GapLines$State" "writes" "I", Cond.methodLink RX5 230 yX5_requireSlot, Cond.static yX5_requireSlot, Cond.code yX5_requireSlot cX5_requireSlot 1 none, Cond.classLink RX5 249 "java/lang/IndexOutOfBoundsException", Cond.initialized "java/lang/IndexOutOfBoundsException", Cond.methodLink RX5 268 yX2_has, Cond.static yX2_has, Cond.initialized RX2, Cond.code yX2_has cX2_has 1 (some .boolean)]
def wsL_tryBack_r2 : List Cond := [Cond.methodLink RX5 240 yX2_bringBack, Cond.instanceMethod yX2_bringBack, Cond.selects RX2 yX2_bringBack yX2_bringBack, Cond.code yX2_bringBack cX2_bringBack 3 (some .boolean), Cond.fieldLink RX2 15 "GapLines$Slots" "filled" "[Z", Cond.fieldLink RX2 11 "GapLines$Slots" "states" "[LGapLines$State;", Cond.methodLink RX2 19 yX2_has, Cond.methodLink RX2 24 yX3_copyFrom, Cond.instanceMethod yX3_copyFrom, Cond.selects RX3 yX3_copyFrom yX3_copyFrom, Cond.initialized RX3, Cond.code yX3_copyFrom cX3_copyFrom 2 none, Cond.fieldLink RX3 25 "GapLines$State" "lines" "I", Cond.fieldLink RX3 28 "GapLines$State" "key" "I", Cond.fieldLink RX3 31 "GapLines$State" "start" "I", Cond.fieldLink RX3 34 "GapLines$State" "gap" "I", Cond.fieldLink RX3 37 "GapLines$State" "spares" "I", Cond.fieldLink RX3 40 "GapLines$State" "writes" "I", Cond.fieldLink RX3 43 "GapLines$State" "moves" "I", Cond.fieldLink RX3 46 "GapLines$State" "writesSinceMove" "I", Cond.fieldLink RX3 49 "GapLines$State" "replaced" "I", Cond.fieldLink RX3 52 "GapLines$State" "laid" "I", Cond.fieldLink RX3 55 "GapLines$State" "dead" "Z", Cond.fieldLink RX3 9 "GapLines$State" "endurance" "I"]
def wsL_tryBack_r3 : List Cond := [Cond.fieldLink RX3 15 "GapLines$State" "every" "I", Cond.fieldLink RX3 18 "GapLines$State" "values" "[I", Cond.methodLink RX3 59 arraycopyName, Cond.native arraycopyName, Cond.static arraycopyName, Cond.initialized "java/lang/System", Cond.fieldLink RX3 22 "GapLines$State" "wears" "[I", Cond.methodLink RX5 69 yX0_forgetAll, Cond.instanceMethod yX0_forgetAll, Cond.selects RX0 yX0_forgetAll yX0_forgetAll, Cond.initialized RX0, Cond.code yX0_forgetAll cX0_forgetAll 1 none, Cond.fieldLink RX0 15 "GapLines$History" "size" "I"]
def wsL_tryBack : List Cond := .codeWith yL_tryBack cL_tryBack 3 (some .int) [(0, 5, 6, 37), (0, 5, 10, 24)] :: ((wsL_tryBack_r1 ++ (wsL_tryBack_r2 ++ wsL_tryBack_r3)) ++ wsX50 ++ wsX30 ++ wsX20 ++ wsX00 ++ (vx_atS RX5 55 "java/lang/IllegalStateException" ["java/lang/RuntimeException", "java/lang/Exception"]).filter goodWord ++ (vx_atS RX5 253 "java/lang/IndexOutOfBoundsException" ["java/lang/RuntimeException", "java/lang/Exception"]).filter goodWord)
def wsL_call_r1 : List Cond := [Cond.methodLink RL 96 yL_tryAppend, Cond.static yL_tryAppend, Cond.initialized RL, Cond.codeWith yL_tryAppend cL_tryAppend 3 (some .int) [(0, 5, 6, 13), (0, 5, 10, 24)], Cond.classLink RL 13 "java/lang/IllegalArgumentException", Cond.classLink RL 24 "java/lang/IllegalStateException", Cond.constant RL 15 (-9999002), Cond.constant RL 26 (-9999003), Cond.methodLink RL 20 yX5_append, Cond.instanceMethod yX5_append, Cond.selects RX5 yX5_append yX5_append, Cond.initialized RX5, Cond.code yX5_append cX5_append 2 (some .int), Cond.classLink RX5 40 "java/lang/IllegalArgumentException", Cond.initialized "java/lang/IllegalArgumentException", Cond.classLink RX5 51 "java/lang/IllegalStateException", Cond.initialized "java/lang/IllegalStateException", Cond.fieldLink RX5 10 "GapLines" "text" "LGapLines$Text;", Cond.methodLink RX5 47 yX4_isFull, Cond.instanceMethod yX4_isFull, Cond.selects RX4 yX4_isFull yX4_isFull, Cond.initialized RX4, Cond.code yX4_isFull cX4_isFull 1 (some .boolean), Cond.fieldLink RX4 15 "GapLines$Text" "length" "I"]
def wsL_call_r2 : List Cond := [Cond.methodLink RX5 56 yX4_add, Cond.instanceMethod yX4_add, Cond.selects RX4 yX4_add yX4_add, Cond.code yX4_add cX4_add 2 (some .int), Cond.fieldLink RX4 11 "GapLines$Text" "signs" "[C", Cond.methodLink RX4 19 yX4_isFull, Cond.methodLink RL 102 yL_tryLoad, Cond.static yL_tryLoad, Cond.codeWith yL_tryLoad cL_tryLoad 2 (some .int) [(0, 4, 5, 24)], Cond.methodLink RL 27 yX5_load, Cond.instanceMethod yX5_load, Cond.selects RX5 yX5_load yX5_load, Cond.code yX5_load cX5_load 1 (some .int), Cond.fieldLink RX5 29 "GapLines" "history" "LGapLines$History;", Cond.fieldLink RX5 36 "GapLines" "slots" "LGapLines$Slots;", Cond.fieldLink RX5 19 "GapLines" "state" "LGapLines$State;", Cond.methodLink RX5 64 yX4_firstError, Cond.instanceMethod yX4_firstError, Cond.selects RX4 yX4_firstError yX4_firstError, Cond.code yX4_firstError cX4_firstError 4 (some .int), Cond.methodLink RX4 23 yX4_errorInHead, Cond.instanceMethod yX4_errorInHead, Cond.selects RX4 yX4_errorInHead yX4_errorInHead, Cond.code yX4_errorInHead cX4_errorInHead 2 (some .int)]
def wsL_call_r3 : List Cond := [Cond.methodLink RX4 34 yX4_signAt, Cond.instanceMethod yX4_signAt, Cond.selects RX4 yX4_signAt yX4_signAt, Cond.code yX4_signAt cX4_signAt 2 (some .char), Cond.methodLink RX4 38 yX4_errorInNumber, Cond.instanceMethod yX4_errorInNumber, Cond.selects RX4 yX4_errorInNumber yX4_errorInNumber, Cond.code yX4_errorInNumber cX4_errorInNumber 9 (some .int), Cond.methodLink RX4 27 yX4_errorInCommand, Cond.instanceMethod yX4_errorInCommand, Cond.selects RX4 yX4_errorInCommand yX4_errorInCommand, Cond.code yX4_errorInCommand cX4_errorInCommand 3 (some .int), Cond.methodLink RX4 31 yX4_commandLength, Cond.instanceMethod yX4_commandLength, Cond.selects RX4 yX4_commandLength yX4_commandLength, Cond.code yX4_commandLength cX4_commandLength 2 (some .int), Cond.methodLink RX5 69 yX0_forgetAll, Cond.instanceMethod yX0_forgetAll, Cond.selects RX0 yX0_forgetAll yX0_forgetAll, Cond.initialized RX0, Cond.code yX0_forgetAll cX0_forgetAll 1 none, Cond.fieldLink RX0 15 "GapLines$History" "size" "I", Cond.methodLink RX5 72 yX2_forgetAll, Cond.instanceMethod yX2_forgetAll]
def wsL_call_r4 : List Cond := [Cond.selects RX2 yX2_forgetAll yX2_forgetAll, Cond.initialized RX2, Cond.code yX2_forgetAll cX2_forgetAll 2 none, Cond.fieldLink RX2 15 "GapLines$Slots" "filled" "[Z", Cond.methodLink RX5 73 yX3_beginAnew, Cond.instanceMethod yX3_beginAnew, Cond.selects RX3 yX3_beginAnew yX3_beginAnew, Cond.initialized RX3, Cond.code yX3_beginAnew cX3_beginAnew 1 none, Cond.fieldLink RX3 9 "GapLines$State" "endurance" "I", Cond.fieldLink RX3 15 "GapLines$State" "every" "I", Cond.methodLink RX3 65 yX3_begin, Cond.instanceMethod yX3_begin, Cond.selects RX3 yX3_begin yX3_begin, Cond.code yX3_begin cX3_begin 5 none, Cond.fieldLink RX3 25 "GapLines$State" "lines" "I", Cond.fieldLink RX3 28 "GapLines$State" "key" "I", Cond.fieldLink RX3 31 "GapLines$State" "start" "I", Cond.fieldLink RX3 34 "GapLines$State" "gap" "I", Cond.fieldLink RX3 37 "GapLines$State" "spares" "I", Cond.fieldLink RX3 40 "GapLines$State" "writes" "I", Cond.fieldLink RX3 43 "GapLines$State" "moves" "I", Cond.fieldLink RX3 46 "GapLines$State" "writesSinceMove" "I", Cond.fieldLink RX3 49 "GapLines$State" "replaced" "I"]
def wsL_call_r5 : List Cond := [Cond.fieldLink RX3 52 "GapLines$State" "laid" "I", Cond.fieldLink RX3 55 "GapLines$State" "dead" "Z", Cond.fieldLink RX3 18 "GapLines$State" "values" "[I", Cond.fieldLink RX3 22 "GapLines$State" "wears" "[I", Cond.methodLink RX5 76 yX4_tellTo, Cond.instanceMethod yX4_tellTo, Cond.selects RX4 yX4_tellTo yX4_tellTo, Cond.code yX4_tellTo cX4_tellTo 6 (some .int), Cond.methodLink RX4 42 yX4_numberAt, Cond.instanceMethod yX4_numberAt, Cond.selects RX4 yX4_numberAt yX4_numberAt, Cond.code yX4_numberAt cX4_numberAt 5 (some .int), Cond.static yX5_isShape, Cond.code yX5_isShape cX5_isShape 2 (some .boolean), Cond.methodLink RX5 273 yX5_haveCommonDivisor, Cond.static yX5_haveCommonDivisor, Cond.code yX5_haveCommonDivisor cX5_haveCommonDivisor 3 (some .boolean), Cond.methodLink RX4 50 yX3_begin, Cond.methodLink RX4 56 yX3_doWrite, Cond.instanceMethod yX3_doWrite, Cond.selects RX3 yX3_doWrite yX3_doWrite, Cond.code yX3_doWrite cX3_doWrite 3 (some .boolean), Cond.methodLink RX3 85 yX3_hasLine, Cond.instanceMethod yX3_hasLine]
def wsL_call_r6 : List Cond := [Cond.selects RX3 yX3_hasLine yX3_hasLine, Cond.code yX3_hasLine cX3_hasLine 2 (some .boolean), Cond.static yX5_isValue, Cond.code yX5_isValue cX5_isValue 1 (some .boolean), Cond.methodLink RX3 109 yX3_writeLine, Cond.instanceMethod yX3_writeLine, Cond.selects RX3 yX3_writeLine yX3_writeLine, Cond.code yX3_writeLine cX3_writeLine 4 (some .int), Cond.methodLink RX3 95 yX3_placeOf, Cond.instanceMethod yX3_placeOf, Cond.selects RX3 yX3_placeOf yX3_placeOf, Cond.code yX3_placeOf cX3_placeOf 3 (some .int), Cond.methodLink RX3 92 yX3_rankOf, Cond.instanceMethod yX3_rankOf, Cond.selects RX3 yX3_rankOf yX3_rankOf, Cond.code yX3_rankOf cX3_rankOf 3 (some .int), Cond.methodLink RX3 99 yX3_layAt, Cond.instanceMethod yX3_layAt, Cond.selects RX3 yX3_layAt yX3_layAt, Cond.code yX3_layAt cX3_layAt 2 none, Cond.methodLink RX3 103 yX3_moveGap, Cond.instanceMethod yX3_moveGap, Cond.selects RX3 yX3_moveGap yX3_moveGap, Cond.code yX3_moveGap cX3_moveGap 1 none]
def wsL_call_r7 : List Cond := [Cond.methodLink RX4 59 yX3_doHammer, Cond.instanceMethod yX3_doHammer, Cond.selects RX3 yX3_doHammer yX3_doHammer, Cond.code yX3_doHammer cX3_doHammer 3 (some .boolean), Cond.static yX5_isHammered, Cond.code yX5_isHammered cX5_isHammered 1 (some .boolean), Cond.methodLink RX3 126 yX3_hammerLine, Cond.instanceMethod yX3_hammerLine, Cond.selects RX3 yX3_hammerLine yX3_hammerLine, Cond.code yX3_hammerLine cX3_hammerLine 4 (some .int), Cond.methodLink RX3 106 yX3_valueOf, Cond.instanceMethod yX3_valueOf, Cond.selects RX3 yX3_valueOf yX3_valueOf, Cond.code yX3_valueOf cX3_valueOf 2 (some .int), Cond.methodLink RX4 62 yX3_doAll, Cond.instanceMethod yX3_doAll, Cond.selects RX3 yX3_doAll yX3_doAll, Cond.code yX3_doAll cX3_doAll 2 (some .boolean), Cond.static yX5_isRounds, Cond.code yX5_isRounds cX5_isRounds 1 (some .boolean), Cond.methodLink RX3 112 yX3_exists, Cond.instanceMethod yX3_exists, Cond.selects RX3 yX3_exists yX3_exists, Cond.code yX3_exists cX3_exists 1 (some .boolean)]
def wsL_call_r8 : List Cond := [Cond.methodLink RX3 132 yX3_writeInTurn, Cond.instanceMethod yX3_writeInTurn, Cond.selects RX3 yX3_writeInTurn yX3_writeInTurn, Cond.code yX3_writeInTurn cX3_writeInTurn 4 (some .int), Cond.methodLink RL 106 yL_tryAbout, Cond.static yL_tryAbout, Cond.codeWith yL_tryAbout cL_tryAbout 3 (some .int) [(0, 5, 6, 13)], Cond.methodLink RL 31 yX5_about, Cond.instanceMethod yX5_about, Cond.selects RX5 yX5_about yX5_about, Cond.code yX5_about cX5_about 2 (some .int), Cond.methodLink RX5 82 yX3_number, Cond.instanceMethod yX3_number, Cond.selects RX3 yX3_number yX3_number, Cond.code yX3_number cX3_number 2 (some .int), Cond.methodLink RX3 69 yX3_greatestWear, Cond.instanceMethod yX3_greatestWear, Cond.selects RX3 yX3_greatestWear yX3_greatestWear, Cond.code yX3_greatestWear cX3_greatestWear 3 (some .int), Cond.methodLink RX3 76 Lib.Math.max.name, Cond.static Lib.Math.max.name, Cond.initialized "java/lang/Math", Cond.code Lib.Math.max.name Lib.Math.max.code 2 (some .int), Cond.methodLink RX3 73 yX3_leastWear]
def wsL_call_r9 : List Cond := [Cond.instanceMethod yX3_leastWear, Cond.selects RX3 yX3_leastWear yX3_leastWear, Cond.code yX3_leastWear cX3_leastWear 3 (some .int), Cond.methodLink RX3 82 Lib.Math.min.name, Cond.static Lib.Math.min.name, Cond.code Lib.Math.min.name Lib.Math.min.code 2 (some .int), Cond.methodLink RL 109 yL_tryRead, Cond.static yL_tryRead, Cond.codeWith yL_tryRead cL_tryRead 3 (some .int) [(0, 5, 6, 37)], Cond.classLink RL 37 "java/lang/IndexOutOfBoundsException", Cond.constant RL 39 (-9999001), Cond.methodLink RL 34 yX5_read, Cond.instanceMethod yX5_read, Cond.selects RX5 yX5_read yX5_read, Cond.code yX5_read cX5_read 2 (some .int), Cond.methodLink RX5 86 yX5_requireLine, Cond.instanceMethod yX5_requireLine, Cond.selects RX5 yX5_requireLine yX5_requireLine, Cond.code yX5_requireLine cX5_requireLine 2 none, Cond.classLink RX5 249 "java/lang/IndexOutOfBoundsException", Cond.initialized "java/lang/IndexOutOfBoundsException", Cond.methodLink RX5 246 yX3_hasLine, Cond.methodLink RX5 90 yX3_valueOf, Cond.methodLink RL 112 yL_tryPlace]
def wsL_call_r10 : List Cond := [Cond.static yL_tryPlace, Cond.codeWith yL_tryPlace cL_tryPlace 3 (some .int) [(0, 5, 6, 37)], Cond.methodLink RL 40 yX5_place, Cond.instanceMethod yX5_place, Cond.selects RX5 yX5_place yX5_place, Cond.code yX5_place cX5_place 2 (some .int), Cond.methodLink RX5 93 yX3_placeOf, Cond.methodLink RL 115 yL_tryLine, Cond.static yL_tryLine, Cond.codeWith yL_tryLine cL_tryLine 3 (some .int) [(0, 5, 6, 37)], Cond.methodLink RL 43 yX5_line, Cond.instanceMethod yX5_line, Cond.selects RX5 yX5_line yX5_line, Cond.code yX5_line cX5_line 2 (some .int), Cond.methodLink RX5 96 yX5_requirePlace, Cond.instanceMethod yX5_requirePlace, Cond.selects RX5 yX5_requirePlace yX5_requirePlace, Cond.code yX5_requirePlace cX5_requirePlace 2 none, Cond.methodLink RX5 254 yX3_hasPlace, Cond.instanceMethod yX3_hasPlace, Cond.selects RX3 yX3_hasPlace yX3_hasPlace, Cond.code yX3_hasPlace cX3_hasPlace 2 (some .boolean), Cond.methodLink RX5 99 yX3_lineAt, Cond.instanceMethod yX3_lineAt]
def wsL_call_r11 : List Cond := [Cond.selects RX3 yX3_lineAt yX3_lineAt, Cond.code yX3_lineAt cX3_lineAt 4 (some .int), Cond.methodLink RL 118 yL_tryWear, Cond.static yL_tryWear, Cond.codeWith yL_tryWear cL_tryWear 3 (some .int) [(0, 5, 6, 37)], Cond.methodLink RL 46 yX5_wear, Cond.instanceMethod yX5_wear, Cond.selects RX5 yX5_wear yX5_wear, Cond.code yX5_wear cX5_wear 2 (some .int), Cond.methodLink RX5 102 yX3_wearOf, Cond.instanceMethod yX3_wearOf, Cond.selects RX3 yX3_wearOf yX3_wearOf, Cond.code yX3_wearOf cX3_wearOf 2 (some .int), Cond.methodLink RX3 89 yX3_hasPlace, Cond.methodLink RL 121 yL_trySetting, Cond.static yL_trySetting, Cond.codeWith yL_trySetting cL_trySetting 3 (some .int) [(0, 5, 6, 13)], Cond.methodLink RL 49 yX5_setting, Cond.instanceMethod yX5_setting, Cond.selects RX5 yX5_setting yX5_setting, Cond.code yX5_setting cX5_setting 2 (some .int), Cond.methodLink RX5 105 yX5_requireSetting, Cond.static yX5_requireSetting, Cond.code yX5_requireSetting cX5_requireSetting 1 none]
def wsL_call_r12 : List Cond := [Cond.methodLink RX5 108 yX3_settingOf, Cond.instanceMethod yX3_settingOf, Cond.selects RX3 yX3_settingOf yX3_settingOf, Cond.code yX3_settingOf cX3_settingOf 2 (some .int), Cond.methodLink RL 124 yL_tryMake, Cond.static yL_tryMake, Cond.codeWith yL_tryMake cL_tryMake 5 (some .int) [(0, 7, 8, 13)], Cond.methodLink RL 52 yX5_make, Cond.instanceMethod yX5_make, Cond.selects RX5 yX5_make yX5_make, Cond.code yX5_make cX5_make 4 (some .int), Cond.methodLink RX5 111 yX5_isShape, Cond.methodLink RX5 119 yX0_remember, Cond.instanceMethod yX0_remember, Cond.selects RX0 yX0_remember yX0_remember, Cond.code yX0_remember cX0_remember 2 none, Cond.fieldLink RX0 11 "GapLines$History" "states" "[LGapLines$State;", Cond.fieldLink RX0 19 "GapLines$History" "next" "I", Cond.classLink RX0 9 RX3, Cond.instantiable RX3 15, Cond.methodLink RX0 27 Lib.Math.min.name, Cond.instanceMethod yX3_init, Cond.code yX3_init cX3_init 1 none, Cond.methodLink RX3 3 objectInit]
def wsL_call_r13 : List Cond := [Cond.instanceMethod objectInit, Cond.code objectInit ⟨#[0xb1]⟩ 1 none, Cond.arrayClass .int, Cond.methodLink RX0 23 yX3_copyFrom, Cond.instanceMethod yX3_copyFrom, Cond.selects RX3 yX3_copyFrom yX3_copyFrom, Cond.code yX3_copyFrom cX3_copyFrom 2 none, Cond.methodLink RX3 59 arraycopyName, Cond.native arraycopyName, Cond.static arraycopyName, Cond.initialized "java/lang/System", Cond.methodLink RX5 123 yX3_begin, Cond.methodLink RL 128 yL_tryWrite, Cond.static yL_tryWrite, Cond.codeWith yL_tryWrite cL_tryWrite 4 (some .int) [(0, 6, 7, 37), (0, 6, 11, 13), (0, 6, 15, 24)], Cond.methodLink RL 56 yX5_write, Cond.instanceMethod yX5_write, Cond.selects RX5 yX5_write yX5_write, Cond.code yX5_write cX5_write 3 (some .int), Cond.fieldLink RX5 133 "GapLines$State" "dead" "Z", Cond.methodLink RX5 127 yX5_isValue, Cond.methodLink RX5 139 yX3_writeLine, Cond.methodLink RL 132 yL_tryHammer, Cond.static yL_tryHammer]
def wsL_call_r14 : List Cond := [Cond.codeWith yL_tryHammer cL_tryHammer 4 (some .int) [(0, 6, 7, 37), (0, 6, 11, 13)], Cond.methodLink RL 60 yX5_hammer, Cond.instanceMethod yX5_hammer, Cond.selects RX5 yX5_hammer yX5_hammer, Cond.code yX5_hammer cX5_hammer 3 (some .int), Cond.methodLink RX5 143 yX5_requireHammered, Cond.static yX5_requireHammered, Cond.code yX5_requireHammered cX5_requireHammered 1 none, Cond.methodLink RX5 263 yX5_isHammered, Cond.methodLink RX5 146 yX3_hammerLine, Cond.methodLink RL 135 yL_tryAll, Cond.static yL_tryAll, Cond.codeWith yL_tryAll cL_tryAll 3 (some .int) [(0, 5, 6, 13), (0, 5, 10, 24)], Cond.methodLink RL 63 yX5_all, Cond.instanceMethod yX5_all, Cond.selects RX5 yX5_all yX5_all, Cond.code yX5_all cX5_all 2 (some .int), Cond.fieldLink RX5 157 "GapLines$State" "lines" "I", Cond.methodLink RX5 149 yX5_isRounds, Cond.methodLink RX5 154 yX5_requireStore, Cond.instanceMethod yX5_requireStore, Cond.selects RX5 yX5_requireStore yX5_requireStore, Cond.code yX5_requireStore cX5_requireStore 1 none, Cond.methodLink RX5 217 yX3_exists]
def wsL_call_r15 : List Cond := [Cond.methodLink RX5 161 yX3_writeInTurn, Cond.methodLink RL 138 yL_tryLay, Cond.static yL_tryLay, Cond.codeWith yL_tryLay cL_tryLay 4 (some .int) [(0, 6, 7, 13)], Cond.methodLink RL 66 yX5_set, Cond.instanceMethod yX5_set, Cond.selects RX5 yX5_set yX5_set, Cond.code yX5_set cX5_set 4 (some .int), Cond.methodLink RX5 164 yX5_isSettingValue, Cond.static yX5_isSettingValue, Cond.code yX5_isSettingValue cX5_isSettingValue 2 (some .boolean), Cond.methodLink RX5 169 yX3_changeSetting, Cond.instanceMethod yX3_changeSetting, Cond.selects RX3 yX3_changeSetting yX3_changeSetting, Cond.code yX3_changeSetting cX3_changeSetting 3 none, Cond.methodLink RL 141 yL_tryUndo, Cond.static yL_tryUndo, Cond.codeWith yL_tryUndo cL_tryUndo 2 (some .int) [(0, 4, 5, 24)], Cond.methodLink RL 69 yX5_undo, Cond.instanceMethod yX5_undo, Cond.selects RX5 yX5_undo yX5_undo, Cond.code yX5_undo cX5_undo 1 (some .int), Cond.methodLink RX5 173 yX0_takeBack, Cond.instanceMethod yX0_takeBack]
def wsL_call_r16 : List Cond := [Cond.selects RX0 yX0_takeBack yX0_takeBack, Cond.code yX0_takeBack cX0_takeBack 3 (some .boolean), Cond.methodLink RX5 179 yX0_size, Cond.instanceMethod yX0_size, Cond.selects RX0 yX0_size yX0_size, Cond.code yX0_size cX0_size 1 (some .int), Cond.methodLink RL 144 yL_tryLife, Cond.static yL_tryLife, Cond.codeWith yL_tryLife cL_tryLife 3 (some .int) [(0, 5, 6, 37)], Cond.methodLink RL 72 yX5_life, Cond.instanceMethod yX5_life, Cond.selects RX5 yX5_life yX5_life, Cond.code yX5_life cX5_life 2 (some .int), Cond.fieldLink RX5 23 "GapLines" "copy" "LGapLines$State;", Cond.methodLink RX5 182 yX3_copyFrom, Cond.methodLink RL 147 yL_tryLong, Cond.static yL_tryLong, Cond.codeWith yL_tryLong cL_tryLong 2 (some .int) [(0, 4, 5, 24)], Cond.methodLink RL 75 yX5_lifeOfAll, Cond.instanceMethod yX5_lifeOfAll, Cond.selects RX5 yX5_lifeOfAll yX5_lifeOfAll, Cond.code yX5_lifeOfAll cX5_lifeOfAll 1 (some .int), Cond.methodLink RL 150 yL_tryEvery, Cond.static yL_tryEvery]
def wsL_call_r17 : List Cond := [Cond.codeWith yL_tryEvery cL_tryEvery 5 (some .int) [(0, 7, 8, 37), (0, 7, 13, 13)], Cond.methodLink RL 78 yX5_ifEvery, Cond.instanceMethod yX5_ifEvery, Cond.selects RX5 yX5_ifEvery yX5_ifEvery, Cond.code yX5_ifEvery cX5_ifEvery 4 (some .int), Cond.methodLink RX5 187 yX5_wearIfEvery, Cond.instanceMethod yX5_wearIfEvery, Cond.selects RX5 yX5_wearIfEvery yX5_wearIfEvery, Cond.code yX5_wearIfEvery cX5_wearIfEvery 4 (some .int), Cond.fieldLink RX5 276 "GapLines$State" "every" "I", Cond.methodLink RX5 227 yX3_greatestWear, Cond.methodLink RL 153 yL_tryBest, Cond.static yL_tryBest, Cond.codeWith yL_tryBest cL_tryBest 4 (some .int) [(0, 6, 7, 37), (0, 6, 11, 13)], Cond.methodLink RL 81 yX5_bestEvery, Cond.instanceMethod yX5_bestEvery, Cond.selects RX5 yX5_bestEvery yX5_bestEvery, Cond.code yX5_bestEvery cX5_bestEvery 7 (some .int), Cond.methodLink RL 156 yL_tryMoves, Cond.static yL_tryMoves, Cond.codeWith yL_tryMoves cL_tryMoves 3 (some .int) [(0, 5, 6, 37)], Cond.methodLink RL 84 yX5_movesTo, Cond.instanceMethod yX5_movesTo, Cond.selects RX5 yX5_movesTo yX5_movesTo]
def wsL_call_r18 : List Cond := [Cond.code yX5_movesTo cX5_movesTo 2 (some .int), Cond.methodLink RX5 191 yX3_movesUntilMoved, Cond.instanceMethod yX3_movesUntilMoved, Cond.selects RX3 yX3_movesUntilMoved yX3_movesUntilMoved, Cond.code yX3_movesUntilMoved cX3_movesUntilMoved 3 (some .int), Cond.methodLink RL 159 yL_tryBehind, Cond.static yL_tryBehind, Cond.codeWith yL_tryBehind cL_tryBehind 4 (some .int) [(0, 6, 7, 37), (0, 6, 11, 13)], Cond.methodLink RL 87 yX5_placeBehind, Cond.instanceMethod yX5_placeBehind, Cond.selects RX5 yX5_placeBehind yX5_placeBehind, Cond.code yX5_placeBehind cX5_placeBehind 3 (some .int), Cond.methodLink RX5 196 yX3_placeAfterMoves, Cond.instanceMethod yX3_placeAfterMoves, Cond.selects RX3 yX3_placeAfterMoves yX3_placeAfterMoves, Cond.code yX3_placeAfterMoves cX3_placeAfterMoves 7 (some .int), Cond.methodLink RL 162 yL_tryKeep, Cond.static yL_tryKeep, Cond.codeWith yL_tryKeep cL_tryKeep 3 (some .int) [(0, 5, 6, 37)], Cond.methodLink RL 90 yX5_save, Cond.instanceMethod yX5_save, Cond.selects RX5 yX5_save yX5_save, Cond.code yX5_save cX5_save 2 (some .int), Cond.fieldLink RX5 237 "GapLines$State" "writes" "I"]
def wsL_call_r19 : List Cond := [Cond.methodLink RX5 230 yX5_requireSlot, Cond.static yX5_requireSlot, Cond.code yX5_requireSlot cX5_requireSlot 1 none, Cond.methodLink RX5 268 yX2_has, Cond.static yX2_has, Cond.code yX2_has cX2_has 1 (some .boolean), Cond.methodLink RX5 233 yX2_keep, Cond.instanceMethod yX2_keep, Cond.selects RX2 yX2_keep yX2_keep, Cond.code yX2_keep cX2_keep 3 none, Cond.fieldLink RX2 11 "GapLines$Slots" "states" "[LGapLines$State;", Cond.classLink RX2 9 RX3, Cond.methodLink RX2 19 yX2_has, Cond.methodLink RX2 24 yX3_copyFrom, Cond.methodLink RL 165 yL_tryBack, Cond.static yL_tryBack, Cond.codeWith yL_tryBack cL_tryBack 3 (some .int) [(0, 5, 6, 37), (0, 5, 10, 24)], Cond.methodLink RL 93 yX5_restore, Cond.instanceMethod yX5_restore, Cond.selects RX5 yX5_restore yX5_restore, Cond.code yX5_restore cX5_restore 2 (some .int), Cond.methodLink RX5 240 yX2_bringBack, Cond.instanceMethod yX2_bringBack, Cond.selects RX2 yX2_bringBack yX2_bringBack]
def wsL_call_r20 : List Cond := [Cond.code yX2_bringBack cX2_bringBack 3 (some .boolean)]
def wsL_call : List Cond := .code yL_call cL_call 5 (some .int) :: ((wsL_call_r1 ++ (wsL_call_r2 ++ (wsL_call_r3 ++ (wsL_call_r4 ++ (wsL_call_r5 ++ (wsL_call_r6 ++ (wsL_call_r7 ++ (wsL_call_r8 ++ (wsL_call_r9 ++ (wsL_call_r10 ++ (wsL_call_r11 ++ (wsL_call_r12 ++ (wsL_call_r13 ++ (wsL_call_r14 ++ (wsL_call_r15 ++ (wsL_call_r16 ++ (wsL_call_r17 ++ (wsL_call_r18 ++ (wsL_call_r19 ++ wsL_call_r20))))))))))))))))))) ++ wsX50 ++ wsX40 ++ wsX00 ++ wsX20 ++ wsX30 ++ (vx_atS RX5 44 "java/lang/IllegalArgumentException" ["java/lang/RuntimeException", "java/lang/Exception"]).filter goodWord ++ (vx_atS RX5 55 "java/lang/IllegalStateException" ["java/lang/RuntimeException", "java/lang/Exception"]).filter goodWord ++ (vx_atS RX5 253 "java/lang/IndexOutOfBoundsException" ["java/lang/RuntimeException", "java/lang/Exception"]).filter goodWord)
def wsL_cell : List Cond := .code yL_cell cL_cell 2 (some .int) :: ([.constant RL 168 (15518993), .constant RL 169 (2147483647)])
def wsL_thrown : List Cond := .code yL_thrown cL_thrown 1 (some .boolean) :: ([.constant RL 39 (-9999001), .constant RL 15 (-9999002), .constant RL 26 (-9999003)])
def wsL_refuses_r1 : List Cond := [Cond.constant RL 15 (-9999002), Cond.constant RL 39 (-9999001), Cond.constantLong RL 178 (1000000), Cond.methodLink RL 170 yL_call, Cond.static yL_call, Cond.initialized RL, Cond.code yL_call cL_call 5 (some .int), Cond.methodLink RL 96 yL_tryAppend, Cond.static yL_tryAppend, Cond.codeWith yL_tryAppend cL_tryAppend 3 (some .int) [(0, 5, 6, 13), (0, 5, 10, 24)], Cond.classLink RL 13 "java/lang/IllegalArgumentException", Cond.classLink RL 24 "java/lang/IllegalStateException", Cond.constant RL 26 (-9999003), Cond.methodLink RL 20 yX5_append, Cond.instanceMethod yX5_append, Cond.selects RX5 yX5_append yX5_append, Cond.initialized RX5, Cond.code yX5_append cX5_append 2 (some .int), Cond.classLink RX5 40 "java/lang/IllegalArgumentException", Cond.initialized "java/lang/IllegalArgumentException", Cond.classLink RX5 51 "java/lang/IllegalStateException", Cond.initialized "java/lang/IllegalStateException", Cond.fieldLink RX5 10 "GapLines" "text" "LGapLines$Text;", Cond.methodLink RX5 47 yX4_isFull]
def wsL_refuses_r2 : List Cond := [Cond.instanceMethod yX4_isFull, Cond.selects RX4 yX4_isFull yX4_isFull, Cond.initialized RX4, Cond.code yX4_isFull cX4_isFull 1 (some .boolean), Cond.fieldLink RX4 15 "GapLines$Text" "length" "I", Cond.methodLink RX5 56 yX4_add, Cond.instanceMethod yX4_add, Cond.selects RX4 yX4_add yX4_add, Cond.code yX4_add cX4_add 2 (some .int), Cond.fieldLink RX4 11 "GapLines$Text" "signs" "[C", Cond.methodLink RX4 19 yX4_isFull, Cond.methodLink RL 102 yL_tryLoad, Cond.static yL_tryLoad, Cond.codeWith yL_tryLoad cL_tryLoad 2 (some .int) [(0, 4, 5, 24)], Cond.methodLink RL 27 yX5_load, Cond.instanceMethod yX5_load, Cond.selects RX5 yX5_load yX5_load, Cond.code yX5_load cX5_load 1 (some .int), Cond.fieldLink RX5 29 "GapLines" "history" "LGapLines$History;", Cond.fieldLink RX5 36 "GapLines" "slots" "LGapLines$Slots;", Cond.fieldLink RX5 19 "GapLines" "state" "LGapLines$State;", Cond.methodLink RX5 64 yX4_firstError, Cond.instanceMethod yX4_firstError, Cond.selects RX4 yX4_firstError yX4_firstError]
def wsL_refuses_r3 : List Cond := [Cond.code yX4_firstError cX4_firstError 4 (some .int), Cond.methodLink RX4 23 yX4_errorInHead, Cond.instanceMethod yX4_errorInHead, Cond.selects RX4 yX4_errorInHead yX4_errorInHead, Cond.code yX4_errorInHead cX4_errorInHead 2 (some .int), Cond.methodLink RX4 34 yX4_signAt, Cond.instanceMethod yX4_signAt, Cond.selects RX4 yX4_signAt yX4_signAt, Cond.code yX4_signAt cX4_signAt 2 (some .char), Cond.methodLink RX4 38 yX4_errorInNumber, Cond.instanceMethod yX4_errorInNumber, Cond.selects RX4 yX4_errorInNumber yX4_errorInNumber, Cond.code yX4_errorInNumber cX4_errorInNumber 9 (some .int), Cond.methodLink RX4 27 yX4_errorInCommand, Cond.instanceMethod yX4_errorInCommand, Cond.selects RX4 yX4_errorInCommand yX4_errorInCommand, Cond.code yX4_errorInCommand cX4_errorInCommand 3 (some .int), Cond.methodLink RX4 31 yX4_commandLength, Cond.instanceMethod yX4_commandLength, Cond.selects RX4 yX4_commandLength yX4_commandLength, Cond.code yX4_commandLength cX4_commandLength 2 (some .int), Cond.methodLink RX5 69 yX0_forgetAll, Cond.instanceMethod yX0_forgetAll, Cond.selects RX0 yX0_forgetAll yX0_forgetAll]
def wsL_refuses_r4 : List Cond := [Cond.initialized RX0, Cond.code yX0_forgetAll cX0_forgetAll 1 none, Cond.fieldLink RX0 15 "GapLines$History" "size" "I", Cond.methodLink RX5 72 yX2_forgetAll, Cond.instanceMethod yX2_forgetAll, Cond.selects RX2 yX2_forgetAll yX2_forgetAll, Cond.initialized RX2, Cond.code yX2_forgetAll cX2_forgetAll 2 none, Cond.fieldLink RX2 15 "GapLines$Slots" "filled" "[Z", Cond.methodLink RX5 73 yX3_beginAnew, Cond.instanceMethod yX3_beginAnew, Cond.selects RX3 yX3_beginAnew yX3_beginAnew, Cond.initialized RX3, Cond.code yX3_beginAnew cX3_beginAnew 1 none, Cond.fieldLink RX3 9 "GapLines$State" "endurance" "I", Cond.fieldLink RX3 15 "GapLines$State" "every" "I", Cond.methodLink RX3 65 yX3_begin, Cond.instanceMethod yX3_begin, Cond.selects RX3 yX3_begin yX3_begin, Cond.code yX3_begin cX3_begin 5 none, Cond.fieldLink RX3 25 "GapLines$State" "lines" "I", Cond.fieldLink RX3 28 "GapLines$State" "key" "I", Cond.fieldLink RX3 31 "GapLines$State" "start" "I", Cond.fieldLink RX3 34 "GapLines$State" "gap" "I"]
def wsL_refuses_r5 : List Cond := [Cond.fieldLink RX3 37 "GapLines$State" "spares" "I", Cond.fieldLink RX3 40 "GapLines$State" "writes" "I", Cond.fieldLink RX3 43 "GapLines$State" "moves" "I", Cond.fieldLink RX3 46 "GapLines$State" "writesSinceMove" "I", Cond.fieldLink RX3 49 "GapLines$State" "replaced" "I", Cond.fieldLink RX3 52 "GapLines$State" "laid" "I", Cond.fieldLink RX3 55 "GapLines$State" "dead" "Z", Cond.fieldLink RX3 18 "GapLines$State" "values" "[I", Cond.fieldLink RX3 22 "GapLines$State" "wears" "[I", Cond.methodLink RX5 76 yX4_tellTo, Cond.instanceMethod yX4_tellTo, Cond.selects RX4 yX4_tellTo yX4_tellTo, Cond.code yX4_tellTo cX4_tellTo 6 (some .int), Cond.methodLink RX4 42 yX4_numberAt, Cond.instanceMethod yX4_numberAt, Cond.selects RX4 yX4_numberAt yX4_numberAt, Cond.code yX4_numberAt cX4_numberAt 5 (some .int), Cond.static yX5_isShape, Cond.code yX5_isShape cX5_isShape 2 (some .boolean), Cond.methodLink RX5 273 yX5_haveCommonDivisor, Cond.static yX5_haveCommonDivisor, Cond.code yX5_haveCommonDivisor cX5_haveCommonDivisor 3 (some .boolean), Cond.methodLink RX4 50 yX3_begin, Cond.methodLink RX4 56 yX3_doWrite]
def wsL_refuses_r6 : List Cond := [Cond.instanceMethod yX3_doWrite, Cond.selects RX3 yX3_doWrite yX3_doWrite, Cond.code yX3_doWrite cX3_doWrite 3 (some .boolean), Cond.methodLink RX3 85 yX3_hasLine, Cond.instanceMethod yX3_hasLine, Cond.selects RX3 yX3_hasLine yX3_hasLine, Cond.code yX3_hasLine cX3_hasLine 2 (some .boolean), Cond.static yX5_isValue, Cond.code yX5_isValue cX5_isValue 1 (some .boolean), Cond.methodLink RX3 109 yX3_writeLine, Cond.instanceMethod yX3_writeLine, Cond.selects RX3 yX3_writeLine yX3_writeLine, Cond.code yX3_writeLine cX3_writeLine 4 (some .int), Cond.methodLink RX3 95 yX3_placeOf, Cond.instanceMethod yX3_placeOf, Cond.selects RX3 yX3_placeOf yX3_placeOf, Cond.code yX3_placeOf cX3_placeOf 3 (some .int), Cond.methodLink RX3 92 yX3_rankOf, Cond.instanceMethod yX3_rankOf, Cond.selects RX3 yX3_rankOf yX3_rankOf, Cond.code yX3_rankOf cX3_rankOf 3 (some .int), Cond.methodLink RX3 99 yX3_layAt, Cond.instanceMethod yX3_layAt, Cond.selects RX3 yX3_layAt yX3_layAt]
def wsL_refuses_r7 : List Cond := [Cond.code yX3_layAt cX3_layAt 2 none, Cond.methodLink RX3 103 yX3_moveGap, Cond.instanceMethod yX3_moveGap, Cond.selects RX3 yX3_moveGap yX3_moveGap, Cond.code yX3_moveGap cX3_moveGap 1 none, Cond.methodLink RX4 59 yX3_doHammer, Cond.instanceMethod yX3_doHammer, Cond.selects RX3 yX3_doHammer yX3_doHammer, Cond.code yX3_doHammer cX3_doHammer 3 (some .boolean), Cond.static yX5_isHammered, Cond.code yX5_isHammered cX5_isHammered 1 (some .boolean), Cond.methodLink RX3 126 yX3_hammerLine, Cond.instanceMethod yX3_hammerLine, Cond.selects RX3 yX3_hammerLine yX3_hammerLine, Cond.code yX3_hammerLine cX3_hammerLine 4 (some .int), Cond.methodLink RX3 106 yX3_valueOf, Cond.instanceMethod yX3_valueOf, Cond.selects RX3 yX3_valueOf yX3_valueOf, Cond.code yX3_valueOf cX3_valueOf 2 (some .int), Cond.methodLink RX4 62 yX3_doAll, Cond.instanceMethod yX3_doAll, Cond.selects RX3 yX3_doAll yX3_doAll, Cond.code yX3_doAll cX3_doAll 2 (some .boolean), Cond.static yX5_isRounds]
def wsL_refuses_r8 : List Cond := [Cond.code yX5_isRounds cX5_isRounds 1 (some .boolean), Cond.methodLink RX3 112 yX3_exists, Cond.instanceMethod yX3_exists, Cond.selects RX3 yX3_exists yX3_exists, Cond.code yX3_exists cX3_exists 1 (some .boolean), Cond.methodLink RX3 132 yX3_writeInTurn, Cond.instanceMethod yX3_writeInTurn, Cond.selects RX3 yX3_writeInTurn yX3_writeInTurn, Cond.code yX3_writeInTurn cX3_writeInTurn 4 (some .int), Cond.methodLink RL 106 yL_tryAbout, Cond.static yL_tryAbout, Cond.codeWith yL_tryAbout cL_tryAbout 3 (some .int) [(0, 5, 6, 13)], Cond.methodLink RL 31 yX5_about, Cond.instanceMethod yX5_about, Cond.selects RX5 yX5_about yX5_about, Cond.code yX5_about cX5_about 2 (some .int), Cond.methodLink RX5 82 yX3_number, Cond.instanceMethod yX3_number, Cond.selects RX3 yX3_number yX3_number, Cond.code yX3_number cX3_number 2 (some .int), Cond.methodLink RX3 69 yX3_greatestWear, Cond.instanceMethod yX3_greatestWear, Cond.selects RX3 yX3_greatestWear yX3_greatestWear, Cond.code yX3_greatestWear cX3_greatestWear 3 (some .int)]
def wsL_refuses_r9 : List Cond := [Cond.methodLink RX3 76 Lib.Math.max.name, Cond.static Lib.Math.max.name, Cond.initialized "java/lang/Math", Cond.code Lib.Math.max.name Lib.Math.max.code 2 (some .int), Cond.methodLink RX3 73 yX3_leastWear, Cond.instanceMethod yX3_leastWear, Cond.selects RX3 yX3_leastWear yX3_leastWear, Cond.code yX3_leastWear cX3_leastWear 3 (some .int), Cond.methodLink RX3 82 Lib.Math.min.name, Cond.static Lib.Math.min.name, Cond.code Lib.Math.min.name Lib.Math.min.code 2 (some .int), Cond.methodLink RL 109 yL_tryRead, Cond.static yL_tryRead, Cond.codeWith yL_tryRead cL_tryRead 3 (some .int) [(0, 5, 6, 37)], Cond.classLink RL 37 "java/lang/IndexOutOfBoundsException", Cond.methodLink RL 34 yX5_read, Cond.instanceMethod yX5_read, Cond.selects RX5 yX5_read yX5_read, Cond.code yX5_read cX5_read 2 (some .int), Cond.methodLink RX5 86 yX5_requireLine, Cond.instanceMethod yX5_requireLine, Cond.selects RX5 yX5_requireLine yX5_requireLine, Cond.code yX5_requireLine cX5_requireLine 2 none, Cond.classLink RX5 249 "java/lang/IndexOutOfBoundsException"]
def wsL_refuses_r10 : List Cond := [Cond.initialized "java/lang/IndexOutOfBoundsException", Cond.methodLink RX5 246 yX3_hasLine, Cond.methodLink RX5 90 yX3_valueOf, Cond.methodLink RL 112 yL_tryPlace, Cond.static yL_tryPlace, Cond.codeWith yL_tryPlace cL_tryPlace 3 (some .int) [(0, 5, 6, 37)], Cond.methodLink RL 40 yX5_place, Cond.instanceMethod yX5_place, Cond.selects RX5 yX5_place yX5_place, Cond.code yX5_place cX5_place 2 (some .int), Cond.methodLink RX5 93 yX3_placeOf, Cond.methodLink RL 115 yL_tryLine, Cond.static yL_tryLine, Cond.codeWith yL_tryLine cL_tryLine 3 (some .int) [(0, 5, 6, 37)], Cond.methodLink RL 43 yX5_line, Cond.instanceMethod yX5_line, Cond.selects RX5 yX5_line yX5_line, Cond.code yX5_line cX5_line 2 (some .int), Cond.methodLink RX5 96 yX5_requirePlace, Cond.instanceMethod yX5_requirePlace, Cond.selects RX5 yX5_requirePlace yX5_requirePlace, Cond.code yX5_requirePlace cX5_requirePlace 2 none, Cond.methodLink RX5 254 yX3_hasPlace, Cond.instanceMethod yX3_hasPlace]
def wsL_refuses_r11 : List Cond := [Cond.selects RX3 yX3_hasPlace yX3_hasPlace, Cond.code yX3_hasPlace cX3_hasPlace 2 (some .boolean), Cond.methodLink RX5 99 yX3_lineAt, Cond.instanceMethod yX3_lineAt, Cond.selects RX3 yX3_lineAt yX3_lineAt, Cond.code yX3_lineAt cX3_lineAt 4 (some .int), Cond.methodLink RL 118 yL_tryWear, Cond.static yL_tryWear, Cond.codeWith yL_tryWear cL_tryWear 3 (some .int) [(0, 5, 6, 37)], Cond.methodLink RL 46 yX5_wear, Cond.instanceMethod yX5_wear, Cond.selects RX5 yX5_wear yX5_wear, Cond.code yX5_wear cX5_wear 2 (some .int), Cond.methodLink RX5 102 yX3_wearOf, Cond.instanceMethod yX3_wearOf, Cond.selects RX3 yX3_wearOf yX3_wearOf, Cond.code yX3_wearOf cX3_wearOf 2 (some .int), Cond.methodLink RX3 89 yX3_hasPlace, Cond.methodLink RL 121 yL_trySetting, Cond.static yL_trySetting, Cond.codeWith yL_trySetting cL_trySetting 3 (some .int) [(0, 5, 6, 13)], Cond.methodLink RL 49 yX5_setting, Cond.instanceMethod yX5_setting, Cond.selects RX5 yX5_setting yX5_setting]
def wsL_refuses_r12 : List Cond := [Cond.code yX5_setting cX5_setting 2 (some .int), Cond.methodLink RX5 105 yX5_requireSetting, Cond.static yX5_requireSetting, Cond.code yX5_requireSetting cX5_requireSetting 1 none, Cond.methodLink RX5 108 yX3_settingOf, Cond.instanceMethod yX3_settingOf, Cond.selects RX3 yX3_settingOf yX3_settingOf, Cond.code yX3_settingOf cX3_settingOf 2 (some .int), Cond.methodLink RL 124 yL_tryMake, Cond.static yL_tryMake, Cond.codeWith yL_tryMake cL_tryMake 5 (some .int) [(0, 7, 8, 13)], Cond.methodLink RL 52 yX5_make, Cond.instanceMethod yX5_make, Cond.selects RX5 yX5_make yX5_make, Cond.code yX5_make cX5_make 4 (some .int), Cond.methodLink RX5 111 yX5_isShape, Cond.methodLink RX5 119 yX0_remember, Cond.instanceMethod yX0_remember, Cond.selects RX0 yX0_remember yX0_remember, Cond.code yX0_remember cX0_remember 2 none, Cond.fieldLink RX0 11 "GapLines$History" "states" "[LGapLines$State;", Cond.fieldLink RX0 19 "GapLines$History" "next" "I", Cond.classLink RX0 9 RX3, Cond.instantiable RX3 15]
def wsL_refuses_r13 : List Cond := [Cond.methodLink RX0 27 Lib.Math.min.name, Cond.instanceMethod yX3_init, Cond.code yX3_init cX3_init 1 none, Cond.methodLink RX3 3 objectInit, Cond.instanceMethod objectInit, Cond.code objectInit ⟨#[0xb1]⟩ 1 none, Cond.arrayClass .int, Cond.methodLink RX0 23 yX3_copyFrom, Cond.instanceMethod yX3_copyFrom, Cond.selects RX3 yX3_copyFrom yX3_copyFrom, Cond.code yX3_copyFrom cX3_copyFrom 2 none, Cond.methodLink RX3 59 arraycopyName, Cond.native arraycopyName, Cond.static arraycopyName, Cond.initialized "java/lang/System", Cond.methodLink RX5 123 yX3_begin, Cond.methodLink RL 128 yL_tryWrite, Cond.static yL_tryWrite, Cond.codeWith yL_tryWrite cL_tryWrite 4 (some .int) [(0, 6, 7, 37), (0, 6, 11, 13), (0, 6, 15, 24)], Cond.methodLink RL 56 yX5_write, Cond.instanceMethod yX5_write, Cond.selects RX5 yX5_write yX5_write, Cond.code yX5_write cX5_write 3 (some .int), Cond.fieldLink RX5 133 "GapLines$State" "dead" "Z"]
def wsL_refuses_r14 : List Cond := [Cond.methodLink RX5 127 yX5_isValue, Cond.methodLink RX5 139 yX3_writeLine, Cond.methodLink RL 132 yL_tryHammer, Cond.static yL_tryHammer, Cond.codeWith yL_tryHammer cL_tryHammer 4 (some .int) [(0, 6, 7, 37), (0, 6, 11, 13)], Cond.methodLink RL 60 yX5_hammer, Cond.instanceMethod yX5_hammer, Cond.selects RX5 yX5_hammer yX5_hammer, Cond.code yX5_hammer cX5_hammer 3 (some .int), Cond.methodLink RX5 143 yX5_requireHammered, Cond.static yX5_requireHammered, Cond.code yX5_requireHammered cX5_requireHammered 1 none, Cond.methodLink RX5 263 yX5_isHammered, Cond.methodLink RX5 146 yX3_hammerLine, Cond.methodLink RL 135 yL_tryAll, Cond.static yL_tryAll, Cond.codeWith yL_tryAll cL_tryAll 3 (some .int) [(0, 5, 6, 13), (0, 5, 10, 24)], Cond.methodLink RL 63 yX5_all, Cond.instanceMethod yX5_all, Cond.selects RX5 yX5_all yX5_all, Cond.code yX5_all cX5_all 2 (some .int), Cond.fieldLink RX5 157 "GapLines$State" "lines" "I", Cond.methodLink RX5 149 yX5_isRounds, Cond.methodLink RX5 154 yX5_requireStore]
def wsL_refuses_r15 : List Cond := [Cond.instanceMethod yX5_requireStore, Cond.selects RX5 yX5_requireStore yX5_requireStore, Cond.code yX5_requireStore cX5_requireStore 1 none, Cond.methodLink RX5 217 yX3_exists, Cond.methodLink RX5 161 yX3_writeInTurn, Cond.methodLink RL 138 yL_tryLay, Cond.static yL_tryLay, Cond.codeWith yL_tryLay cL_tryLay 4 (some .int) [(0, 6, 7, 13)], Cond.methodLink RL 66 yX5_set, Cond.instanceMethod yX5_set, Cond.selects RX5 yX5_set yX5_set, Cond.code yX5_set cX5_set 4 (some .int), Cond.methodLink RX5 164 yX5_isSettingValue, Cond.static yX5_isSettingValue, Cond.code yX5_isSettingValue cX5_isSettingValue 2 (some .boolean), Cond.methodLink RX5 169 yX3_changeSetting, Cond.instanceMethod yX3_changeSetting, Cond.selects RX3 yX3_changeSetting yX3_changeSetting, Cond.code yX3_changeSetting cX3_changeSetting 3 none, Cond.methodLink RL 141 yL_tryUndo, Cond.static yL_tryUndo, Cond.codeWith yL_tryUndo cL_tryUndo 2 (some .int) [(0, 4, 5, 24)], Cond.methodLink RL 69 yX5_undo, Cond.instanceMethod yX5_undo]
def wsL_refuses_r16 : List Cond := [Cond.selects RX5 yX5_undo yX5_undo, Cond.code yX5_undo cX5_undo 1 (some .int), Cond.methodLink RX5 173 yX0_takeBack, Cond.instanceMethod yX0_takeBack, Cond.selects RX0 yX0_takeBack yX0_takeBack, Cond.code yX0_takeBack cX0_takeBack 3 (some .boolean), Cond.methodLink RX5 179 yX0_size, Cond.instanceMethod yX0_size, Cond.selects RX0 yX0_size yX0_size, Cond.code yX0_size cX0_size 1 (some .int), Cond.methodLink RL 144 yL_tryLife, Cond.static yL_tryLife, Cond.codeWith yL_tryLife cL_tryLife 3 (some .int) [(0, 5, 6, 37)], Cond.methodLink RL 72 yX5_life, Cond.instanceMethod yX5_life, Cond.selects RX5 yX5_life yX5_life, Cond.code yX5_life cX5_life 2 (some .int), Cond.fieldLink RX5 23 "GapLines" "copy" "LGapLines$State;", Cond.methodLink RX5 182 yX3_copyFrom, Cond.methodLink RL 147 yL_tryLong, Cond.static yL_tryLong, Cond.codeWith yL_tryLong cL_tryLong 2 (some .int) [(0, 4, 5, 24)], Cond.methodLink RL 75 yX5_lifeOfAll, Cond.instanceMethod yX5_lifeOfAll]
def wsL_refuses_r17 : List Cond := [Cond.selects RX5 yX5_lifeOfAll yX5_lifeOfAll, Cond.code yX5_lifeOfAll cX5_lifeOfAll 1 (some .int), Cond.methodLink RL 150 yL_tryEvery, Cond.static yL_tryEvery, Cond.codeWith yL_tryEvery cL_tryEvery 5 (some .int) [(0, 7, 8, 37), (0, 7, 13, 13)], Cond.methodLink RL 78 yX5_ifEvery, Cond.instanceMethod yX5_ifEvery, Cond.selects RX5 yX5_ifEvery yX5_ifEvery, Cond.code yX5_ifEvery cX5_ifEvery 4 (some .int), Cond.methodLink RX5 187 yX5_wearIfEvery, Cond.instanceMethod yX5_wearIfEvery, Cond.selects RX5 yX5_wearIfEvery yX5_wearIfEvery, Cond.code yX5_wearIfEvery cX5_wearIfEvery 4 (some .int), Cond.fieldLink RX5 276 "GapLines$State" "every" "I", Cond.methodLink RX5 227 yX3_greatestWear, Cond.methodLink RL 153 yL_tryBest, Cond.static yL_tryBest, Cond.codeWith yL_tryBest cL_tryBest 4 (some .int) [(0, 6, 7, 37), (0, 6, 11, 13)], Cond.methodLink RL 81 yX5_bestEvery, Cond.instanceMethod yX5_bestEvery, Cond.selects RX5 yX5_bestEvery yX5_bestEvery, Cond.code yX5_bestEvery cX5_bestEvery 7 (some .int), Cond.methodLink RL 156 yL_tryMoves, Cond.static yL_tryMoves]
def wsL_refuses_r18 : List Cond := [Cond.codeWith yL_tryMoves cL_tryMoves 3 (some .int) [(0, 5, 6, 37)], Cond.methodLink RL 84 yX5_movesTo, Cond.instanceMethod yX5_movesTo, Cond.selects RX5 yX5_movesTo yX5_movesTo, Cond.code yX5_movesTo cX5_movesTo 2 (some .int), Cond.methodLink RX5 191 yX3_movesUntilMoved, Cond.instanceMethod yX3_movesUntilMoved, Cond.selects RX3 yX3_movesUntilMoved yX3_movesUntilMoved, Cond.code yX3_movesUntilMoved cX3_movesUntilMoved 3 (some .int), Cond.methodLink RL 159 yL_tryBehind, Cond.static yL_tryBehind, Cond.codeWith yL_tryBehind cL_tryBehind 4 (some .int) [(0, 6, 7, 37), (0, 6, 11, 13)], Cond.methodLink RL 87 yX5_placeBehind, Cond.instanceMethod yX5_placeBehind, Cond.selects RX5 yX5_placeBehind yX5_placeBehind, Cond.code yX5_placeBehind cX5_placeBehind 3 (some .int), Cond.methodLink RX5 196 yX3_placeAfterMoves, Cond.instanceMethod yX3_placeAfterMoves, Cond.selects RX3 yX3_placeAfterMoves yX3_placeAfterMoves, Cond.code yX3_placeAfterMoves cX3_placeAfterMoves 7 (some .int), Cond.methodLink RL 162 yL_tryKeep, Cond.static yL_tryKeep, Cond.codeWith yL_tryKeep cL_tryKeep 3 (some .int) [(0, 5, 6, 37)], Cond.methodLink RL 90 yX5_save]
def wsL_refuses_r19 : List Cond := [Cond.instanceMethod yX5_save, Cond.selects RX5 yX5_save yX5_save, Cond.code yX5_save cX5_save 2 (some .int), Cond.fieldLink RX5 237 "GapLines$State" "writes" "I", Cond.methodLink RX5 230 yX5_requireSlot, Cond.static yX5_requireSlot, Cond.code yX5_requireSlot cX5_requireSlot 1 none, Cond.methodLink RX5 268 yX2_has, Cond.static yX2_has, Cond.code yX2_has cX2_has 1 (some .boolean), Cond.methodLink RX5 233 yX2_keep, Cond.instanceMethod yX2_keep, Cond.selects RX2 yX2_keep yX2_keep, Cond.code yX2_keep cX2_keep 3 none, Cond.fieldLink RX2 11 "GapLines$Slots" "states" "[LGapLines$State;", Cond.classLink RX2 9 RX3, Cond.methodLink RX2 19 yX2_has, Cond.methodLink RX2 24 yX3_copyFrom, Cond.methodLink RL 165 yL_tryBack, Cond.static yL_tryBack, Cond.codeWith yL_tryBack cL_tryBack 3 (some .int) [(0, 5, 6, 37), (0, 5, 10, 24)], Cond.methodLink RL 93 yX5_restore, Cond.instanceMethod yX5_restore, Cond.selects RX5 yX5_restore yX5_restore]
def wsL_refuses_r20 : List Cond := [Cond.code yX5_restore cX5_restore 2 (some .int), Cond.methodLink RX5 240 yX2_bringBack, Cond.instanceMethod yX2_bringBack, Cond.selects RX2 yX2_bringBack yX2_bringBack, Cond.code yX2_bringBack cX2_bringBack 3 (some .boolean), Cond.methodLink RL 174 yL_doScript, Cond.static yL_doScript, Cond.codeWith yL_doScript cL_doScript 5 (some .int) [(0, 6, 7, 13)], Cond.methodLink RL 7 yX5_runScript, Cond.instanceMethod yX5_runScript, Cond.selects RX5 yX5_runScript yX5_runScript, Cond.code yX5_runScript cX5_runScript 6 (some .int), Cond.constantLong RX5 207 (1000000), Cond.methodLink RX5 201 yX5_withoutLastCommands, Cond.static yX5_withoutLastCommands, Cond.code yX5_withoutLastCommands cX5_withoutLastCommands 6 (some .long), Cond.methodLink RX5 209 yX1_succeeds, Cond.static yX1_succeeds, Cond.initialized RX1, Cond.code yX1_succeeds cX1_succeeds 5 (some .boolean), Cond.constant RX1 7 (100000), Cond.fieldLink RX1 44 "GapLines$State" "dead" "Z", Cond.fieldLink RX1 48 "GapLines$State" "gap" "I", Cond.methodLink RX1 8 yX3_doWrite]
def wsL_refuses_r21 : List Cond := [Cond.methodLink RX1 14 yX3_doHammer, Cond.methodLink RX1 17 yX3_doAll, Cond.methodLink RX1 21 yX3_doSet, Cond.instanceMethod yX3_doSet, Cond.selects RX3 yX3_doSet yX3_doSet, Cond.code yX3_doSet cX3_doSet 3 (some .boolean), Cond.methodLink RX3 139 yX3_changeSetting, Cond.methodLink RX1 24 yX3_hasLine, Cond.methodLink RX1 27 yX3_valueOf, Cond.methodLink RX1 31 yX3_placeOf, Cond.methodLink RX1 34 yX3_hasPlace, Cond.methodLink RX1 37 yX3_wearOf, Cond.methodLink RX1 40 yX3_exists, Cond.methodLink RL 180 yL_doSimulate, Cond.static yL_doSimulate, Cond.codeWith yL_doSimulate cL_doSimulate 5 (some .int) [(0, 6, 7, 13)], Cond.methodLink RL 16 yX5_simulate, Cond.instanceMethod yX5_simulate, Cond.selects RX5 yX5_simulate yX5_simulate, Cond.code yX5_simulate cX5_simulate 4 (some .int), Cond.fieldLink RX5 224 "GapLines$State" "moves" "I", Cond.methodLink RX5 220 yX3_writeByChance, Cond.instanceMethod yX3_writeByChance, Cond.selects RX3 yX3_writeByChance yX3_writeByChance]
def wsL_refuses_r22 : List Cond := [Cond.code yX3_writeByChance cX3_writeByChance 9 none, Cond.constantLong RX3 116 (6364136223846793005), Cond.constantLong RX3 118 (1442695040888963407)]
def wsL_refuses : List Cond := .code yL_refuses cL_refuses 5 (some .boolean) :: ((wsL_refuses_r1 ++ (wsL_refuses_r2 ++ (wsL_refuses_r3 ++ (wsL_refuses_r4 ++ (wsL_refuses_r5 ++ (wsL_refuses_r6 ++ (wsL_refuses_r7 ++ (wsL_refuses_r8 ++ (wsL_refuses_r9 ++ (wsL_refuses_r10 ++ (wsL_refuses_r11 ++ (wsL_refuses_r12 ++ (wsL_refuses_r13 ++ (wsL_refuses_r14 ++ (wsL_refuses_r15 ++ (wsL_refuses_r16 ++ (wsL_refuses_r17 ++ (wsL_refuses_r18 ++ (wsL_refuses_r19 ++ (wsL_refuses_r20 ++ (wsL_refuses_r21 ++ wsL_refuses_r22))))))))))))))))))))) ++ wsX50 ++ wsX40 ++ wsX00 ++ wsX20 ++ wsX30 ++ (vx_atS RX5 44 "java/lang/IllegalArgumentException" ["java/lang/RuntimeException", "java/lang/Exception"]).filter goodWord ++ (vx_atS RX5 55 "java/lang/IllegalStateException" ["java/lang/RuntimeException", "java/lang/Exception"]).filter goodWord ++ (vx_atS RX5 253 "java/lang/IndexOutOfBoundsException" ["java/lang/RuntimeException", "java/lang/Exception"]).filter goodWord)
def wsL_holds_r1 : List Cond := [Cond.constant RL 184 (1000000), Cond.methodLink RL 170 yL_call, Cond.static yL_call, Cond.initialized RL, Cond.code yL_call cL_call 5 (some .int), Cond.methodLink RL 96 yL_tryAppend, Cond.static yL_tryAppend, Cond.codeWith yL_tryAppend cL_tryAppend 3 (some .int) [(0, 5, 6, 13), (0, 5, 10, 24)], Cond.classLink RL 13 "java/lang/IllegalArgumentException", Cond.classLink RL 24 "java/lang/IllegalStateException", Cond.constant RL 15 (-9999002), Cond.constant RL 26 (-9999003), Cond.methodLink RL 20 yX5_append, Cond.instanceMethod yX5_append, Cond.selects RX5 yX5_append yX5_append, Cond.initialized RX5, Cond.code yX5_append cX5_append 2 (some .int), Cond.classLink RX5 40 "java/lang/IllegalArgumentException", Cond.initialized "java/lang/IllegalArgumentException", Cond.classLink RX5 51 "java/lang/IllegalStateException", Cond.initialized "java/lang/IllegalStateException", Cond.fieldLink RX5 10 "GapLines" "text" "LGapLines$Text;", Cond.methodLink RX5 47 yX4_isFull, Cond.instanceMethod yX4_isFull]
def wsL_holds_r2 : List Cond := [Cond.selects RX4 yX4_isFull yX4_isFull, Cond.initialized RX4, Cond.code yX4_isFull cX4_isFull 1 (some .boolean), Cond.fieldLink RX4 15 "GapLines$Text" "length" "I", Cond.methodLink RX5 56 yX4_add, Cond.instanceMethod yX4_add, Cond.selects RX4 yX4_add yX4_add, Cond.code yX4_add cX4_add 2 (some .int), Cond.fieldLink RX4 11 "GapLines$Text" "signs" "[C", Cond.methodLink RX4 19 yX4_isFull, Cond.methodLink RL 102 yL_tryLoad, Cond.static yL_tryLoad, Cond.codeWith yL_tryLoad cL_tryLoad 2 (some .int) [(0, 4, 5, 24)], Cond.methodLink RL 27 yX5_load, Cond.instanceMethod yX5_load, Cond.selects RX5 yX5_load yX5_load, Cond.code yX5_load cX5_load 1 (some .int), Cond.fieldLink RX5 29 "GapLines" "history" "LGapLines$History;", Cond.fieldLink RX5 36 "GapLines" "slots" "LGapLines$Slots;", Cond.fieldLink RX5 19 "GapLines" "state" "LGapLines$State;", Cond.methodLink RX5 64 yX4_firstError, Cond.instanceMethod yX4_firstError, Cond.selects RX4 yX4_firstError yX4_firstError, Cond.code yX4_firstError cX4_firstError 4 (some .int)]
def wsL_holds_r3 : List Cond := [Cond.methodLink RX4 23 yX4_errorInHead, Cond.instanceMethod yX4_errorInHead, Cond.selects RX4 yX4_errorInHead yX4_errorInHead, Cond.code yX4_errorInHead cX4_errorInHead 2 (some .int), Cond.methodLink RX4 34 yX4_signAt, Cond.instanceMethod yX4_signAt, Cond.selects RX4 yX4_signAt yX4_signAt, Cond.code yX4_signAt cX4_signAt 2 (some .char), Cond.methodLink RX4 38 yX4_errorInNumber, Cond.instanceMethod yX4_errorInNumber, Cond.selects RX4 yX4_errorInNumber yX4_errorInNumber, Cond.code yX4_errorInNumber cX4_errorInNumber 9 (some .int), Cond.methodLink RX4 27 yX4_errorInCommand, Cond.instanceMethod yX4_errorInCommand, Cond.selects RX4 yX4_errorInCommand yX4_errorInCommand, Cond.code yX4_errorInCommand cX4_errorInCommand 3 (some .int), Cond.methodLink RX4 31 yX4_commandLength, Cond.instanceMethod yX4_commandLength, Cond.selects RX4 yX4_commandLength yX4_commandLength, Cond.code yX4_commandLength cX4_commandLength 2 (some .int), Cond.methodLink RX5 69 yX0_forgetAll, Cond.instanceMethod yX0_forgetAll, Cond.selects RX0 yX0_forgetAll yX0_forgetAll, Cond.initialized RX0]
def wsL_holds_r4 : List Cond := [Cond.code yX0_forgetAll cX0_forgetAll 1 none, Cond.fieldLink RX0 15 "GapLines$History" "size" "I", Cond.methodLink RX5 72 yX2_forgetAll, Cond.instanceMethod yX2_forgetAll, Cond.selects RX2 yX2_forgetAll yX2_forgetAll, Cond.initialized RX2, Cond.code yX2_forgetAll cX2_forgetAll 2 none, Cond.fieldLink RX2 15 "GapLines$Slots" "filled" "[Z", Cond.methodLink RX5 73 yX3_beginAnew, Cond.instanceMethod yX3_beginAnew, Cond.selects RX3 yX3_beginAnew yX3_beginAnew, Cond.initialized RX3, Cond.code yX3_beginAnew cX3_beginAnew 1 none, Cond.fieldLink RX3 9 "GapLines$State" "endurance" "I", Cond.fieldLink RX3 15 "GapLines$State" "every" "I", Cond.methodLink RX3 65 yX3_begin, Cond.instanceMethod yX3_begin, Cond.selects RX3 yX3_begin yX3_begin, Cond.code yX3_begin cX3_begin 5 none, Cond.fieldLink RX3 25 "GapLines$State" "lines" "I", Cond.fieldLink RX3 28 "GapLines$State" "key" "I", Cond.fieldLink RX3 31 "GapLines$State" "start" "I", Cond.fieldLink RX3 34 "GapLines$State" "gap" "I", Cond.fieldLink RX3 37 "GapLines$State" "spares" "I"]
def wsL_holds_r5 : List Cond := [Cond.fieldLink RX3 40 "GapLines$State" "writes" "I", Cond.fieldLink RX3 43 "GapLines$State" "moves" "I", Cond.fieldLink RX3 46 "GapLines$State" "writesSinceMove" "I", Cond.fieldLink RX3 49 "GapLines$State" "replaced" "I", Cond.fieldLink RX3 52 "GapLines$State" "laid" "I", Cond.fieldLink RX3 55 "GapLines$State" "dead" "Z", Cond.fieldLink RX3 18 "GapLines$State" "values" "[I", Cond.fieldLink RX3 22 "GapLines$State" "wears" "[I", Cond.methodLink RX5 76 yX4_tellTo, Cond.instanceMethod yX4_tellTo, Cond.selects RX4 yX4_tellTo yX4_tellTo, Cond.code yX4_tellTo cX4_tellTo 6 (some .int), Cond.methodLink RX4 42 yX4_numberAt, Cond.instanceMethod yX4_numberAt, Cond.selects RX4 yX4_numberAt yX4_numberAt, Cond.code yX4_numberAt cX4_numberAt 5 (some .int), Cond.static yX5_isShape, Cond.code yX5_isShape cX5_isShape 2 (some .boolean), Cond.methodLink RX5 273 yX5_haveCommonDivisor, Cond.static yX5_haveCommonDivisor, Cond.code yX5_haveCommonDivisor cX5_haveCommonDivisor 3 (some .boolean), Cond.methodLink RX4 50 yX3_begin, Cond.methodLink RX4 56 yX3_doWrite, Cond.instanceMethod yX3_doWrite]
def wsL_holds_r6 : List Cond := [Cond.selects RX3 yX3_doWrite yX3_doWrite, Cond.code yX3_doWrite cX3_doWrite 3 (some .boolean), Cond.methodLink RX3 85 yX3_hasLine, Cond.instanceMethod yX3_hasLine, Cond.selects RX3 yX3_hasLine yX3_hasLine, Cond.code yX3_hasLine cX3_hasLine 2 (some .boolean), Cond.static yX5_isValue, Cond.code yX5_isValue cX5_isValue 1 (some .boolean), Cond.methodLink RX3 109 yX3_writeLine, Cond.instanceMethod yX3_writeLine, Cond.selects RX3 yX3_writeLine yX3_writeLine, Cond.code yX3_writeLine cX3_writeLine 4 (some .int), Cond.methodLink RX3 95 yX3_placeOf, Cond.instanceMethod yX3_placeOf, Cond.selects RX3 yX3_placeOf yX3_placeOf, Cond.code yX3_placeOf cX3_placeOf 3 (some .int), Cond.methodLink RX3 92 yX3_rankOf, Cond.instanceMethod yX3_rankOf, Cond.selects RX3 yX3_rankOf yX3_rankOf, Cond.code yX3_rankOf cX3_rankOf 3 (some .int), Cond.methodLink RX3 99 yX3_layAt, Cond.instanceMethod yX3_layAt, Cond.selects RX3 yX3_layAt yX3_layAt, Cond.code yX3_layAt cX3_layAt 2 none]
def wsL_holds_r7 : List Cond := [Cond.methodLink RX3 103 yX3_moveGap, Cond.instanceMethod yX3_moveGap, Cond.selects RX3 yX3_moveGap yX3_moveGap, Cond.code yX3_moveGap cX3_moveGap 1 none, Cond.methodLink RX4 59 yX3_doHammer, Cond.instanceMethod yX3_doHammer, Cond.selects RX3 yX3_doHammer yX3_doHammer, Cond.code yX3_doHammer cX3_doHammer 3 (some .boolean), Cond.static yX5_isHammered, Cond.code yX5_isHammered cX5_isHammered 1 (some .boolean), Cond.methodLink RX3 126 yX3_hammerLine, Cond.instanceMethod yX3_hammerLine, Cond.selects RX3 yX3_hammerLine yX3_hammerLine, Cond.code yX3_hammerLine cX3_hammerLine 4 (some .int), Cond.methodLink RX3 106 yX3_valueOf, Cond.instanceMethod yX3_valueOf, Cond.selects RX3 yX3_valueOf yX3_valueOf, Cond.code yX3_valueOf cX3_valueOf 2 (some .int), Cond.methodLink RX4 62 yX3_doAll, Cond.instanceMethod yX3_doAll, Cond.selects RX3 yX3_doAll yX3_doAll, Cond.code yX3_doAll cX3_doAll 2 (some .boolean), Cond.static yX5_isRounds, Cond.code yX5_isRounds cX5_isRounds 1 (some .boolean)]
def wsL_holds_r8 : List Cond := [Cond.methodLink RX3 112 yX3_exists, Cond.instanceMethod yX3_exists, Cond.selects RX3 yX3_exists yX3_exists, Cond.code yX3_exists cX3_exists 1 (some .boolean), Cond.methodLink RX3 132 yX3_writeInTurn, Cond.instanceMethod yX3_writeInTurn, Cond.selects RX3 yX3_writeInTurn yX3_writeInTurn, Cond.code yX3_writeInTurn cX3_writeInTurn 4 (some .int), Cond.methodLink RL 106 yL_tryAbout, Cond.static yL_tryAbout, Cond.codeWith yL_tryAbout cL_tryAbout 3 (some .int) [(0, 5, 6, 13)], Cond.methodLink RL 31 yX5_about, Cond.instanceMethod yX5_about, Cond.selects RX5 yX5_about yX5_about, Cond.code yX5_about cX5_about 2 (some .int), Cond.methodLink RX5 82 yX3_number, Cond.instanceMethod yX3_number, Cond.selects RX3 yX3_number yX3_number, Cond.code yX3_number cX3_number 2 (some .int), Cond.methodLink RX3 69 yX3_greatestWear, Cond.instanceMethod yX3_greatestWear, Cond.selects RX3 yX3_greatestWear yX3_greatestWear, Cond.code yX3_greatestWear cX3_greatestWear 3 (some .int), Cond.methodLink RX3 76 Lib.Math.max.name]
def wsL_holds_r9 : List Cond := [Cond.static Lib.Math.max.name, Cond.initialized "java/lang/Math", Cond.code Lib.Math.max.name Lib.Math.max.code 2 (some .int), Cond.methodLink RX3 73 yX3_leastWear, Cond.instanceMethod yX3_leastWear, Cond.selects RX3 yX3_leastWear yX3_leastWear, Cond.code yX3_leastWear cX3_leastWear 3 (some .int), Cond.methodLink RX3 82 Lib.Math.min.name, Cond.static Lib.Math.min.name, Cond.code Lib.Math.min.name Lib.Math.min.code 2 (some .int), Cond.methodLink RL 109 yL_tryRead, Cond.static yL_tryRead, Cond.codeWith yL_tryRead cL_tryRead 3 (some .int) [(0, 5, 6, 37)], Cond.classLink RL 37 "java/lang/IndexOutOfBoundsException", Cond.constant RL 39 (-9999001), Cond.methodLink RL 34 yX5_read, Cond.instanceMethod yX5_read, Cond.selects RX5 yX5_read yX5_read, Cond.code yX5_read cX5_read 2 (some .int), Cond.methodLink RX5 86 yX5_requireLine, Cond.instanceMethod yX5_requireLine, Cond.selects RX5 yX5_requireLine yX5_requireLine, Cond.code yX5_requireLine cX5_requireLine 2 none, Cond.classLink RX5 249 "java/lang/IndexOutOfBoundsException"]
def wsL_holds_r10 : List Cond := [Cond.initialized "java/lang/IndexOutOfBoundsException", Cond.methodLink RX5 246 yX3_hasLine, Cond.methodLink RX5 90 yX3_valueOf, Cond.methodLink RL 112 yL_tryPlace, Cond.static yL_tryPlace, Cond.codeWith yL_tryPlace cL_tryPlace 3 (some .int) [(0, 5, 6, 37)], Cond.methodLink RL 40 yX5_place, Cond.instanceMethod yX5_place, Cond.selects RX5 yX5_place yX5_place, Cond.code yX5_place cX5_place 2 (some .int), Cond.methodLink RX5 93 yX3_placeOf, Cond.methodLink RL 115 yL_tryLine, Cond.static yL_tryLine, Cond.codeWith yL_tryLine cL_tryLine 3 (some .int) [(0, 5, 6, 37)], Cond.methodLink RL 43 yX5_line, Cond.instanceMethod yX5_line, Cond.selects RX5 yX5_line yX5_line, Cond.code yX5_line cX5_line 2 (some .int), Cond.methodLink RX5 96 yX5_requirePlace, Cond.instanceMethod yX5_requirePlace, Cond.selects RX5 yX5_requirePlace yX5_requirePlace, Cond.code yX5_requirePlace cX5_requirePlace 2 none, Cond.methodLink RX5 254 yX3_hasPlace, Cond.instanceMethod yX3_hasPlace]
def wsL_holds_r11 : List Cond := [Cond.selects RX3 yX3_hasPlace yX3_hasPlace, Cond.code yX3_hasPlace cX3_hasPlace 2 (some .boolean), Cond.methodLink RX5 99 yX3_lineAt, Cond.instanceMethod yX3_lineAt, Cond.selects RX3 yX3_lineAt yX3_lineAt, Cond.code yX3_lineAt cX3_lineAt 4 (some .int), Cond.methodLink RL 118 yL_tryWear, Cond.static yL_tryWear, Cond.codeWith yL_tryWear cL_tryWear 3 (some .int) [(0, 5, 6, 37)], Cond.methodLink RL 46 yX5_wear, Cond.instanceMethod yX5_wear, Cond.selects RX5 yX5_wear yX5_wear, Cond.code yX5_wear cX5_wear 2 (some .int), Cond.methodLink RX5 102 yX3_wearOf, Cond.instanceMethod yX3_wearOf, Cond.selects RX3 yX3_wearOf yX3_wearOf, Cond.code yX3_wearOf cX3_wearOf 2 (some .int), Cond.methodLink RX3 89 yX3_hasPlace, Cond.methodLink RL 121 yL_trySetting, Cond.static yL_trySetting, Cond.codeWith yL_trySetting cL_trySetting 3 (some .int) [(0, 5, 6, 13)], Cond.methodLink RL 49 yX5_setting, Cond.instanceMethod yX5_setting, Cond.selects RX5 yX5_setting yX5_setting]
def wsL_holds_r12 : List Cond := [Cond.code yX5_setting cX5_setting 2 (some .int), Cond.methodLink RX5 105 yX5_requireSetting, Cond.static yX5_requireSetting, Cond.code yX5_requireSetting cX5_requireSetting 1 none, Cond.methodLink RX5 108 yX3_settingOf, Cond.instanceMethod yX3_settingOf, Cond.selects RX3 yX3_settingOf yX3_settingOf, Cond.code yX3_settingOf cX3_settingOf 2 (some .int), Cond.methodLink RL 124 yL_tryMake, Cond.static yL_tryMake, Cond.codeWith yL_tryMake cL_tryMake 5 (some .int) [(0, 7, 8, 13)], Cond.methodLink RL 52 yX5_make, Cond.instanceMethod yX5_make, Cond.selects RX5 yX5_make yX5_make, Cond.code yX5_make cX5_make 4 (some .int), Cond.methodLink RX5 111 yX5_isShape, Cond.methodLink RX5 119 yX0_remember, Cond.instanceMethod yX0_remember, Cond.selects RX0 yX0_remember yX0_remember, Cond.code yX0_remember cX0_remember 2 none, Cond.fieldLink RX0 11 "GapLines$History" "states" "[LGapLines$State;", Cond.fieldLink RX0 19 "GapLines$History" "next" "I", Cond.classLink RX0 9 RX3, Cond.instantiable RX3 15]
def wsL_holds_r13 : List Cond := [Cond.methodLink RX0 27 Lib.Math.min.name, Cond.instanceMethod yX3_init, Cond.code yX3_init cX3_init 1 none, Cond.methodLink RX3 3 objectInit, Cond.instanceMethod objectInit, Cond.code objectInit ⟨#[0xb1]⟩ 1 none, Cond.arrayClass .int, Cond.methodLink RX0 23 yX3_copyFrom, Cond.instanceMethod yX3_copyFrom, Cond.selects RX3 yX3_copyFrom yX3_copyFrom, Cond.code yX3_copyFrom cX3_copyFrom 2 none, Cond.methodLink RX3 59 arraycopyName, Cond.native arraycopyName, Cond.static arraycopyName, Cond.initialized "java/lang/System", Cond.methodLink RX5 123 yX3_begin, Cond.methodLink RL 128 yL_tryWrite, Cond.static yL_tryWrite, Cond.codeWith yL_tryWrite cL_tryWrite 4 (some .int) [(0, 6, 7, 37), (0, 6, 11, 13), (0, 6, 15, 24)], Cond.methodLink RL 56 yX5_write, Cond.instanceMethod yX5_write, Cond.selects RX5 yX5_write yX5_write, Cond.code yX5_write cX5_write 3 (some .int), Cond.fieldLink RX5 133 "GapLines$State" "dead" "Z"]
def wsL_holds_r14 : List Cond := [Cond.methodLink RX5 127 yX5_isValue, Cond.methodLink RX5 139 yX3_writeLine, Cond.methodLink RL 132 yL_tryHammer, Cond.static yL_tryHammer, Cond.codeWith yL_tryHammer cL_tryHammer 4 (some .int) [(0, 6, 7, 37), (0, 6, 11, 13)], Cond.methodLink RL 60 yX5_hammer, Cond.instanceMethod yX5_hammer, Cond.selects RX5 yX5_hammer yX5_hammer, Cond.code yX5_hammer cX5_hammer 3 (some .int), Cond.methodLink RX5 143 yX5_requireHammered, Cond.static yX5_requireHammered, Cond.code yX5_requireHammered cX5_requireHammered 1 none, Cond.methodLink RX5 263 yX5_isHammered, Cond.methodLink RX5 146 yX3_hammerLine, Cond.methodLink RL 135 yL_tryAll, Cond.static yL_tryAll, Cond.codeWith yL_tryAll cL_tryAll 3 (some .int) [(0, 5, 6, 13), (0, 5, 10, 24)], Cond.methodLink RL 63 yX5_all, Cond.instanceMethod yX5_all, Cond.selects RX5 yX5_all yX5_all, Cond.code yX5_all cX5_all 2 (some .int), Cond.fieldLink RX5 157 "GapLines$State" "lines" "I", Cond.methodLink RX5 149 yX5_isRounds, Cond.methodLink RX5 154 yX5_requireStore]
def wsL_holds_r15 : List Cond := [Cond.instanceMethod yX5_requireStore, Cond.selects RX5 yX5_requireStore yX5_requireStore, Cond.code yX5_requireStore cX5_requireStore 1 none, Cond.methodLink RX5 217 yX3_exists, Cond.methodLink RX5 161 yX3_writeInTurn, Cond.methodLink RL 138 yL_tryLay, Cond.static yL_tryLay, Cond.codeWith yL_tryLay cL_tryLay 4 (some .int) [(0, 6, 7, 13)], Cond.methodLink RL 66 yX5_set, Cond.instanceMethod yX5_set, Cond.selects RX5 yX5_set yX5_set, Cond.code yX5_set cX5_set 4 (some .int), Cond.methodLink RX5 164 yX5_isSettingValue, Cond.static yX5_isSettingValue, Cond.code yX5_isSettingValue cX5_isSettingValue 2 (some .boolean), Cond.methodLink RX5 169 yX3_changeSetting, Cond.instanceMethod yX3_changeSetting, Cond.selects RX3 yX3_changeSetting yX3_changeSetting, Cond.code yX3_changeSetting cX3_changeSetting 3 none, Cond.methodLink RL 141 yL_tryUndo, Cond.static yL_tryUndo, Cond.codeWith yL_tryUndo cL_tryUndo 2 (some .int) [(0, 4, 5, 24)], Cond.methodLink RL 69 yX5_undo, Cond.instanceMethod yX5_undo]
def wsL_holds_r16 : List Cond := [Cond.selects RX5 yX5_undo yX5_undo, Cond.code yX5_undo cX5_undo 1 (some .int), Cond.methodLink RX5 173 yX0_takeBack, Cond.instanceMethod yX0_takeBack, Cond.selects RX0 yX0_takeBack yX0_takeBack, Cond.code yX0_takeBack cX0_takeBack 3 (some .boolean), Cond.methodLink RX5 179 yX0_size, Cond.instanceMethod yX0_size, Cond.selects RX0 yX0_size yX0_size, Cond.code yX0_size cX0_size 1 (some .int), Cond.methodLink RL 144 yL_tryLife, Cond.static yL_tryLife, Cond.codeWith yL_tryLife cL_tryLife 3 (some .int) [(0, 5, 6, 37)], Cond.methodLink RL 72 yX5_life, Cond.instanceMethod yX5_life, Cond.selects RX5 yX5_life yX5_life, Cond.code yX5_life cX5_life 2 (some .int), Cond.fieldLink RX5 23 "GapLines" "copy" "LGapLines$State;", Cond.methodLink RX5 182 yX3_copyFrom, Cond.methodLink RL 147 yL_tryLong, Cond.static yL_tryLong, Cond.codeWith yL_tryLong cL_tryLong 2 (some .int) [(0, 4, 5, 24)], Cond.methodLink RL 75 yX5_lifeOfAll, Cond.instanceMethod yX5_lifeOfAll]
def wsL_holds_r17 : List Cond := [Cond.selects RX5 yX5_lifeOfAll yX5_lifeOfAll, Cond.code yX5_lifeOfAll cX5_lifeOfAll 1 (some .int), Cond.methodLink RL 150 yL_tryEvery, Cond.static yL_tryEvery, Cond.codeWith yL_tryEvery cL_tryEvery 5 (some .int) [(0, 7, 8, 37), (0, 7, 13, 13)], Cond.methodLink RL 78 yX5_ifEvery, Cond.instanceMethod yX5_ifEvery, Cond.selects RX5 yX5_ifEvery yX5_ifEvery, Cond.code yX5_ifEvery cX5_ifEvery 4 (some .int), Cond.methodLink RX5 187 yX5_wearIfEvery, Cond.instanceMethod yX5_wearIfEvery, Cond.selects RX5 yX5_wearIfEvery yX5_wearIfEvery, Cond.code yX5_wearIfEvery cX5_wearIfEvery 4 (some .int), Cond.fieldLink RX5 276 "GapLines$State" "every" "I", Cond.methodLink RX5 227 yX3_greatestWear, Cond.methodLink RL 153 yL_tryBest, Cond.static yL_tryBest, Cond.codeWith yL_tryBest cL_tryBest 4 (some .int) [(0, 6, 7, 37), (0, 6, 11, 13)], Cond.methodLink RL 81 yX5_bestEvery, Cond.instanceMethod yX5_bestEvery, Cond.selects RX5 yX5_bestEvery yX5_bestEvery, Cond.code yX5_bestEvery cX5_bestEvery 7 (some .int), Cond.methodLink RL 156 yL_tryMoves, Cond.static yL_tryMoves]
def wsL_holds_r18 : List Cond := [Cond.codeWith yL_tryMoves cL_tryMoves 3 (some .int) [(0, 5, 6, 37)], Cond.methodLink RL 84 yX5_movesTo, Cond.instanceMethod yX5_movesTo, Cond.selects RX5 yX5_movesTo yX5_movesTo, Cond.code yX5_movesTo cX5_movesTo 2 (some .int), Cond.methodLink RX5 191 yX3_movesUntilMoved, Cond.instanceMethod yX3_movesUntilMoved, Cond.selects RX3 yX3_movesUntilMoved yX3_movesUntilMoved, Cond.code yX3_movesUntilMoved cX3_movesUntilMoved 3 (some .int), Cond.methodLink RL 159 yL_tryBehind, Cond.static yL_tryBehind, Cond.codeWith yL_tryBehind cL_tryBehind 4 (some .int) [(0, 6, 7, 37), (0, 6, 11, 13)], Cond.methodLink RL 87 yX5_placeBehind, Cond.instanceMethod yX5_placeBehind, Cond.selects RX5 yX5_placeBehind yX5_placeBehind, Cond.code yX5_placeBehind cX5_placeBehind 3 (some .int), Cond.methodLink RX5 196 yX3_placeAfterMoves, Cond.instanceMethod yX3_placeAfterMoves, Cond.selects RX3 yX3_placeAfterMoves yX3_placeAfterMoves, Cond.code yX3_placeAfterMoves cX3_placeAfterMoves 7 (some .int), Cond.methodLink RL 162 yL_tryKeep, Cond.static yL_tryKeep, Cond.codeWith yL_tryKeep cL_tryKeep 3 (some .int) [(0, 5, 6, 37)], Cond.methodLink RL 90 yX5_save]
def wsL_holds_r19 : List Cond := [Cond.instanceMethod yX5_save, Cond.selects RX5 yX5_save yX5_save, Cond.code yX5_save cX5_save 2 (some .int), Cond.fieldLink RX5 237 "GapLines$State" "writes" "I", Cond.methodLink RX5 230 yX5_requireSlot, Cond.static yX5_requireSlot, Cond.code yX5_requireSlot cX5_requireSlot 1 none, Cond.methodLink RX5 268 yX2_has, Cond.static yX2_has, Cond.code yX2_has cX2_has 1 (some .boolean), Cond.methodLink RX5 233 yX2_keep, Cond.instanceMethod yX2_keep, Cond.selects RX2 yX2_keep yX2_keep, Cond.code yX2_keep cX2_keep 3 none, Cond.fieldLink RX2 11 "GapLines$Slots" "states" "[LGapLines$State;", Cond.classLink RX2 9 RX3, Cond.methodLink RX2 19 yX2_has, Cond.methodLink RX2 24 yX3_copyFrom, Cond.methodLink RL 165 yL_tryBack, Cond.static yL_tryBack, Cond.codeWith yL_tryBack cL_tryBack 3 (some .int) [(0, 5, 6, 37), (0, 5, 10, 24)], Cond.methodLink RL 93 yX5_restore, Cond.instanceMethod yX5_restore, Cond.selects RX5 yX5_restore yX5_restore]
def wsL_holds_r20 : List Cond := [Cond.code yX5_restore cX5_restore 2 (some .int), Cond.methodLink RX5 240 yX2_bringBack, Cond.instanceMethod yX2_bringBack, Cond.selects RX2 yX2_bringBack yX2_bringBack, Cond.code yX2_bringBack cX2_bringBack 3 (some .boolean)]
def wsL_holds : List Cond := .code yL_holds cL_holds 14 (some .boolean) :: ((wsL_holds_r1 ++ (wsL_holds_r2 ++ (wsL_holds_r3 ++ (wsL_holds_r4 ++ (wsL_holds_r5 ++ (wsL_holds_r6 ++ (wsL_holds_r7 ++ (wsL_holds_r8 ++ (wsL_holds_r9 ++ (wsL_holds_r10 ++ (wsL_holds_r11 ++ (wsL_holds_r12 ++ (wsL_holds_r13 ++ (wsL_holds_r14 ++ (wsL_holds_r15 ++ (wsL_holds_r16 ++ (wsL_holds_r17 ++ (wsL_holds_r18 ++ (wsL_holds_r19 ++ wsL_holds_r20))))))))))))))))))) ++ wsX50 ++ wsX40 ++ wsX00 ++ wsX20 ++ wsX30 ++ (vx_atS RX5 44 "java/lang/IllegalArgumentException" ["java/lang/RuntimeException", "java/lang/Exception"]).filter goodWord ++ (vx_atS RX5 55 "java/lang/IllegalStateException" ["java/lang/RuntimeException", "java/lang/Exception"]).filter goodWord ++ (vx_atS RX5 253 "java/lang/IndexOutOfBoundsException" ["java/lang/RuntimeException", "java/lang/Exception"]).filter goodWord)
def wsL_act_r1 : List Cond := [Cond.methodLink RL 170 yL_call, Cond.static yL_call, Cond.initialized RL, Cond.code yL_call cL_call 5 (some .int), Cond.methodLink RL 96 yL_tryAppend, Cond.static yL_tryAppend, Cond.codeWith yL_tryAppend cL_tryAppend 3 (some .int) [(0, 5, 6, 13), (0, 5, 10, 24)], Cond.classLink RL 13 "java/lang/IllegalArgumentException", Cond.classLink RL 24 "java/lang/IllegalStateException", Cond.constant RL 15 (-9999002), Cond.constant RL 26 (-9999003), Cond.methodLink RL 20 yX5_append, Cond.instanceMethod yX5_append, Cond.selects RX5 yX5_append yX5_append, Cond.initialized RX5, Cond.code yX5_append cX5_append 2 (some .int), Cond.classLink RX5 40 "java/lang/IllegalArgumentException", Cond.initialized "java/lang/IllegalArgumentException", Cond.classLink RX5 51 "java/lang/IllegalStateException", Cond.initialized "java/lang/IllegalStateException", Cond.fieldLink RX5 10 "GapLines" "text" "LGapLines$Text;", Cond.methodLink RX5 47 yX4_isFull, Cond.instanceMethod yX4_isFull, Cond.selects RX4 yX4_isFull yX4_isFull]
def wsL_act_r2 : List Cond := [Cond.initialized RX4, Cond.code yX4_isFull cX4_isFull 1 (some .boolean), Cond.fieldLink RX4 15 "GapLines$Text" "length" "I", Cond.methodLink RX5 56 yX4_add, Cond.instanceMethod yX4_add, Cond.selects RX4 yX4_add yX4_add, Cond.code yX4_add cX4_add 2 (some .int), Cond.fieldLink RX4 11 "GapLines$Text" "signs" "[C", Cond.methodLink RX4 19 yX4_isFull, Cond.methodLink RL 102 yL_tryLoad, Cond.static yL_tryLoad, Cond.codeWith yL_tryLoad cL_tryLoad 2 (some .int) [(0, 4, 5, 24)], Cond.methodLink RL 27 yX5_load, Cond.instanceMethod yX5_load, Cond.selects RX5 yX5_load yX5_load, Cond.code yX5_load cX5_load 1 (some .int), Cond.fieldLink RX5 29 "GapLines" "history" "LGapLines$History;", Cond.fieldLink RX5 36 "GapLines" "slots" "LGapLines$Slots;", Cond.fieldLink RX5 19 "GapLines" "state" "LGapLines$State;", Cond.methodLink RX5 64 yX4_firstError, Cond.instanceMethod yX4_firstError, Cond.selects RX4 yX4_firstError yX4_firstError, Cond.code yX4_firstError cX4_firstError 4 (some .int), Cond.methodLink RX4 23 yX4_errorInHead]
def wsL_act_r3 : List Cond := [Cond.instanceMethod yX4_errorInHead, Cond.selects RX4 yX4_errorInHead yX4_errorInHead, Cond.code yX4_errorInHead cX4_errorInHead 2 (some .int), Cond.methodLink RX4 34 yX4_signAt, Cond.instanceMethod yX4_signAt, Cond.selects RX4 yX4_signAt yX4_signAt, Cond.code yX4_signAt cX4_signAt 2 (some .char), Cond.methodLink RX4 38 yX4_errorInNumber, Cond.instanceMethod yX4_errorInNumber, Cond.selects RX4 yX4_errorInNumber yX4_errorInNumber, Cond.code yX4_errorInNumber cX4_errorInNumber 9 (some .int), Cond.methodLink RX4 27 yX4_errorInCommand, Cond.instanceMethod yX4_errorInCommand, Cond.selects RX4 yX4_errorInCommand yX4_errorInCommand, Cond.code yX4_errorInCommand cX4_errorInCommand 3 (some .int), Cond.methodLink RX4 31 yX4_commandLength, Cond.instanceMethod yX4_commandLength, Cond.selects RX4 yX4_commandLength yX4_commandLength, Cond.code yX4_commandLength cX4_commandLength 2 (some .int), Cond.methodLink RX5 69 yX0_forgetAll, Cond.instanceMethod yX0_forgetAll, Cond.selects RX0 yX0_forgetAll yX0_forgetAll, Cond.initialized RX0, Cond.code yX0_forgetAll cX0_forgetAll 1 none]
def wsL_act_r4 : List Cond := [Cond.fieldLink RX0 15 "GapLines$History" "size" "I", Cond.methodLink RX5 72 yX2_forgetAll, Cond.instanceMethod yX2_forgetAll, Cond.selects RX2 yX2_forgetAll yX2_forgetAll, Cond.initialized RX2, Cond.code yX2_forgetAll cX2_forgetAll 2 none, Cond.fieldLink RX2 15 "GapLines$Slots" "filled" "[Z", Cond.methodLink RX5 73 yX3_beginAnew, Cond.instanceMethod yX3_beginAnew, Cond.selects RX3 yX3_beginAnew yX3_beginAnew, Cond.initialized RX3, Cond.code yX3_beginAnew cX3_beginAnew 1 none, Cond.fieldLink RX3 9 "GapLines$State" "endurance" "I", Cond.fieldLink RX3 15 "GapLines$State" "every" "I", Cond.methodLink RX3 65 yX3_begin, Cond.instanceMethod yX3_begin, Cond.selects RX3 yX3_begin yX3_begin, Cond.code yX3_begin cX3_begin 5 none, Cond.fieldLink RX3 25 "GapLines$State" "lines" "I", Cond.fieldLink RX3 28 "GapLines$State" "key" "I", Cond.fieldLink RX3 31 "GapLines$State" "start" "I", Cond.fieldLink RX3 34 "GapLines$State" "gap" "I", Cond.fieldLink RX3 37 "GapLines$State" "spares" "I", Cond.fieldLink RX3 40 "GapLines$State" "writes" "I"]
def wsL_act_r5 : List Cond := [Cond.fieldLink RX3 43 "GapLines$State" "moves" "I", Cond.fieldLink RX3 46 "GapLines$State" "writesSinceMove" "I", Cond.fieldLink RX3 49 "GapLines$State" "replaced" "I", Cond.fieldLink RX3 52 "GapLines$State" "laid" "I", Cond.fieldLink RX3 55 "GapLines$State" "dead" "Z", Cond.fieldLink RX3 18 "GapLines$State" "values" "[I", Cond.fieldLink RX3 22 "GapLines$State" "wears" "[I", Cond.methodLink RX5 76 yX4_tellTo, Cond.instanceMethod yX4_tellTo, Cond.selects RX4 yX4_tellTo yX4_tellTo, Cond.code yX4_tellTo cX4_tellTo 6 (some .int), Cond.methodLink RX4 42 yX4_numberAt, Cond.instanceMethod yX4_numberAt, Cond.selects RX4 yX4_numberAt yX4_numberAt, Cond.code yX4_numberAt cX4_numberAt 5 (some .int), Cond.static yX5_isShape, Cond.code yX5_isShape cX5_isShape 2 (some .boolean), Cond.methodLink RX5 273 yX5_haveCommonDivisor, Cond.static yX5_haveCommonDivisor, Cond.code yX5_haveCommonDivisor cX5_haveCommonDivisor 3 (some .boolean), Cond.methodLink RX4 50 yX3_begin, Cond.methodLink RX4 56 yX3_doWrite, Cond.instanceMethod yX3_doWrite, Cond.selects RX3 yX3_doWrite yX3_doWrite]
def wsL_act_r6 : List Cond := [Cond.code yX3_doWrite cX3_doWrite 3 (some .boolean), Cond.methodLink RX3 85 yX3_hasLine, Cond.instanceMethod yX3_hasLine, Cond.selects RX3 yX3_hasLine yX3_hasLine, Cond.code yX3_hasLine cX3_hasLine 2 (some .boolean), Cond.static yX5_isValue, Cond.code yX5_isValue cX5_isValue 1 (some .boolean), Cond.methodLink RX3 109 yX3_writeLine, Cond.instanceMethod yX3_writeLine, Cond.selects RX3 yX3_writeLine yX3_writeLine, Cond.code yX3_writeLine cX3_writeLine 4 (some .int), Cond.methodLink RX3 95 yX3_placeOf, Cond.instanceMethod yX3_placeOf, Cond.selects RX3 yX3_placeOf yX3_placeOf, Cond.code yX3_placeOf cX3_placeOf 3 (some .int), Cond.methodLink RX3 92 yX3_rankOf, Cond.instanceMethod yX3_rankOf, Cond.selects RX3 yX3_rankOf yX3_rankOf, Cond.code yX3_rankOf cX3_rankOf 3 (some .int), Cond.methodLink RX3 99 yX3_layAt, Cond.instanceMethod yX3_layAt, Cond.selects RX3 yX3_layAt yX3_layAt, Cond.code yX3_layAt cX3_layAt 2 none, Cond.methodLink RX3 103 yX3_moveGap]
def wsL_act_r7 : List Cond := [Cond.instanceMethod yX3_moveGap, Cond.selects RX3 yX3_moveGap yX3_moveGap, Cond.code yX3_moveGap cX3_moveGap 1 none, Cond.methodLink RX4 59 yX3_doHammer, Cond.instanceMethod yX3_doHammer, Cond.selects RX3 yX3_doHammer yX3_doHammer, Cond.code yX3_doHammer cX3_doHammer 3 (some .boolean), Cond.static yX5_isHammered, Cond.code yX5_isHammered cX5_isHammered 1 (some .boolean), Cond.methodLink RX3 126 yX3_hammerLine, Cond.instanceMethod yX3_hammerLine, Cond.selects RX3 yX3_hammerLine yX3_hammerLine, Cond.code yX3_hammerLine cX3_hammerLine 4 (some .int), Cond.methodLink RX3 106 yX3_valueOf, Cond.instanceMethod yX3_valueOf, Cond.selects RX3 yX3_valueOf yX3_valueOf, Cond.code yX3_valueOf cX3_valueOf 2 (some .int), Cond.methodLink RX4 62 yX3_doAll, Cond.instanceMethod yX3_doAll, Cond.selects RX3 yX3_doAll yX3_doAll, Cond.code yX3_doAll cX3_doAll 2 (some .boolean), Cond.static yX5_isRounds, Cond.code yX5_isRounds cX5_isRounds 1 (some .boolean), Cond.methodLink RX3 112 yX3_exists]
def wsL_act_r8 : List Cond := [Cond.instanceMethod yX3_exists, Cond.selects RX3 yX3_exists yX3_exists, Cond.code yX3_exists cX3_exists 1 (some .boolean), Cond.methodLink RX3 132 yX3_writeInTurn, Cond.instanceMethod yX3_writeInTurn, Cond.selects RX3 yX3_writeInTurn yX3_writeInTurn, Cond.code yX3_writeInTurn cX3_writeInTurn 4 (some .int), Cond.methodLink RL 106 yL_tryAbout, Cond.static yL_tryAbout, Cond.codeWith yL_tryAbout cL_tryAbout 3 (some .int) [(0, 5, 6, 13)], Cond.methodLink RL 31 yX5_about, Cond.instanceMethod yX5_about, Cond.selects RX5 yX5_about yX5_about, Cond.code yX5_about cX5_about 2 (some .int), Cond.methodLink RX5 82 yX3_number, Cond.instanceMethod yX3_number, Cond.selects RX3 yX3_number yX3_number, Cond.code yX3_number cX3_number 2 (some .int), Cond.methodLink RX3 69 yX3_greatestWear, Cond.instanceMethod yX3_greatestWear, Cond.selects RX3 yX3_greatestWear yX3_greatestWear, Cond.code yX3_greatestWear cX3_greatestWear 3 (some .int), Cond.methodLink RX3 76 Lib.Math.max.name, Cond.static Lib.Math.max.name]
def wsL_act_r9 : List Cond := [Cond.initialized "java/lang/Math", Cond.code Lib.Math.max.name Lib.Math.max.code 2 (some .int), Cond.methodLink RX3 73 yX3_leastWear, Cond.instanceMethod yX3_leastWear, Cond.selects RX3 yX3_leastWear yX3_leastWear, Cond.code yX3_leastWear cX3_leastWear 3 (some .int), Cond.methodLink RX3 82 Lib.Math.min.name, Cond.static Lib.Math.min.name, Cond.code Lib.Math.min.name Lib.Math.min.code 2 (some .int), Cond.methodLink RL 109 yL_tryRead, Cond.static yL_tryRead, Cond.codeWith yL_tryRead cL_tryRead 3 (some .int) [(0, 5, 6, 37)], Cond.classLink RL 37 "java/lang/IndexOutOfBoundsException", Cond.constant RL 39 (-9999001), Cond.methodLink RL 34 yX5_read, Cond.instanceMethod yX5_read, Cond.selects RX5 yX5_read yX5_read, Cond.code yX5_read cX5_read 2 (some .int), Cond.methodLink RX5 86 yX5_requireLine, Cond.instanceMethod yX5_requireLine, Cond.selects RX5 yX5_requireLine yX5_requireLine, Cond.code yX5_requireLine cX5_requireLine 2 none, Cond.classLink RX5 249 "java/lang/IndexOutOfBoundsException", Cond.initialized "java/lang/IndexOutOfBoundsException"]
def wsL_act_r10 : List Cond := [Cond.methodLink RX5 246 yX3_hasLine, Cond.methodLink RX5 90 yX3_valueOf, Cond.methodLink RL 112 yL_tryPlace, Cond.static yL_tryPlace, Cond.codeWith yL_tryPlace cL_tryPlace 3 (some .int) [(0, 5, 6, 37)], Cond.methodLink RL 40 yX5_place, Cond.instanceMethod yX5_place, Cond.selects RX5 yX5_place yX5_place, Cond.code yX5_place cX5_place 2 (some .int), Cond.methodLink RX5 93 yX3_placeOf, Cond.methodLink RL 115 yL_tryLine, Cond.static yL_tryLine, Cond.codeWith yL_tryLine cL_tryLine 3 (some .int) [(0, 5, 6, 37)], Cond.methodLink RL 43 yX5_line, Cond.instanceMethod yX5_line, Cond.selects RX5 yX5_line yX5_line, Cond.code yX5_line cX5_line 2 (some .int), Cond.methodLink RX5 96 yX5_requirePlace, Cond.instanceMethod yX5_requirePlace, Cond.selects RX5 yX5_requirePlace yX5_requirePlace, Cond.code yX5_requirePlace cX5_requirePlace 2 none, Cond.methodLink RX5 254 yX3_hasPlace, Cond.instanceMethod yX3_hasPlace, Cond.selects RX3 yX3_hasPlace yX3_hasPlace]
def wsL_act_r11 : List Cond := [Cond.code yX3_hasPlace cX3_hasPlace 2 (some .boolean), Cond.methodLink RX5 99 yX3_lineAt, Cond.instanceMethod yX3_lineAt, Cond.selects RX3 yX3_lineAt yX3_lineAt, Cond.code yX3_lineAt cX3_lineAt 4 (some .int), Cond.methodLink RL 118 yL_tryWear, Cond.static yL_tryWear, Cond.codeWith yL_tryWear cL_tryWear 3 (some .int) [(0, 5, 6, 37)], Cond.methodLink RL 46 yX5_wear, Cond.instanceMethod yX5_wear, Cond.selects RX5 yX5_wear yX5_wear, Cond.code yX5_wear cX5_wear 2 (some .int), Cond.methodLink RX5 102 yX3_wearOf, Cond.instanceMethod yX3_wearOf, Cond.selects RX3 yX3_wearOf yX3_wearOf, Cond.code yX3_wearOf cX3_wearOf 2 (some .int), Cond.methodLink RX3 89 yX3_hasPlace, Cond.methodLink RL 121 yL_trySetting, Cond.static yL_trySetting, Cond.codeWith yL_trySetting cL_trySetting 3 (some .int) [(0, 5, 6, 13)], Cond.methodLink RL 49 yX5_setting, Cond.instanceMethod yX5_setting, Cond.selects RX5 yX5_setting yX5_setting, Cond.code yX5_setting cX5_setting 2 (some .int)]
def wsL_act_r12 : List Cond := [Cond.methodLink RX5 105 yX5_requireSetting, Cond.static yX5_requireSetting, Cond.code yX5_requireSetting cX5_requireSetting 1 none, Cond.methodLink RX5 108 yX3_settingOf, Cond.instanceMethod yX3_settingOf, Cond.selects RX3 yX3_settingOf yX3_settingOf, Cond.code yX3_settingOf cX3_settingOf 2 (some .int), Cond.methodLink RL 124 yL_tryMake, Cond.static yL_tryMake, Cond.codeWith yL_tryMake cL_tryMake 5 (some .int) [(0, 7, 8, 13)], Cond.methodLink RL 52 yX5_make, Cond.instanceMethod yX5_make, Cond.selects RX5 yX5_make yX5_make, Cond.code yX5_make cX5_make 4 (some .int), Cond.methodLink RX5 111 yX5_isShape, Cond.methodLink RX5 119 yX0_remember, Cond.instanceMethod yX0_remember, Cond.selects RX0 yX0_remember yX0_remember, Cond.code yX0_remember cX0_remember 2 none, Cond.fieldLink RX0 11 "GapLines$History" "states" "[LGapLines$State;", Cond.fieldLink RX0 19 "GapLines$History" "next" "I", Cond.classLink RX0 9 RX3, Cond.instantiable RX3 15, Cond.methodLink RX0 27 Lib.Math.min.name]
def wsL_act_r13 : List Cond := [Cond.instanceMethod yX3_init, Cond.code yX3_init cX3_init 1 none, Cond.methodLink RX3 3 objectInit, Cond.instanceMethod objectInit, Cond.code objectInit ⟨#[0xb1]⟩ 1 none, Cond.arrayClass .int, Cond.methodLink RX0 23 yX3_copyFrom, Cond.instanceMethod yX3_copyFrom, Cond.selects RX3 yX3_copyFrom yX3_copyFrom, Cond.code yX3_copyFrom cX3_copyFrom 2 none, Cond.methodLink RX3 59 arraycopyName, Cond.native arraycopyName, Cond.static arraycopyName, Cond.initialized "java/lang/System", Cond.methodLink RX5 123 yX3_begin, Cond.methodLink RL 128 yL_tryWrite, Cond.static yL_tryWrite, Cond.codeWith yL_tryWrite cL_tryWrite 4 (some .int) [(0, 6, 7, 37), (0, 6, 11, 13), (0, 6, 15, 24)], Cond.methodLink RL 56 yX5_write, Cond.instanceMethod yX5_write, Cond.selects RX5 yX5_write yX5_write, Cond.code yX5_write cX5_write 3 (some .int), Cond.fieldLink RX5 133 "GapLines$State" "dead" "Z", Cond.methodLink RX5 127 yX5_isValue]
def wsL_act_r14 : List Cond := [Cond.methodLink RX5 139 yX3_writeLine, Cond.methodLink RL 132 yL_tryHammer, Cond.static yL_tryHammer, Cond.codeWith yL_tryHammer cL_tryHammer 4 (some .int) [(0, 6, 7, 37), (0, 6, 11, 13)], Cond.methodLink RL 60 yX5_hammer, Cond.instanceMethod yX5_hammer, Cond.selects RX5 yX5_hammer yX5_hammer, Cond.code yX5_hammer cX5_hammer 3 (some .int), Cond.methodLink RX5 143 yX5_requireHammered, Cond.static yX5_requireHammered, Cond.code yX5_requireHammered cX5_requireHammered 1 none, Cond.methodLink RX5 263 yX5_isHammered, Cond.methodLink RX5 146 yX3_hammerLine, Cond.methodLink RL 135 yL_tryAll, Cond.static yL_tryAll, Cond.codeWith yL_tryAll cL_tryAll 3 (some .int) [(0, 5, 6, 13), (0, 5, 10, 24)], Cond.methodLink RL 63 yX5_all, Cond.instanceMethod yX5_all, Cond.selects RX5 yX5_all yX5_all, Cond.code yX5_all cX5_all 2 (some .int), Cond.fieldLink RX5 157 "GapLines$State" "lines" "I", Cond.methodLink RX5 149 yX5_isRounds, Cond.methodLink RX5 154 yX5_requireStore, Cond.instanceMethod yX5_requireStore]
def wsL_act_r15 : List Cond := [Cond.selects RX5 yX5_requireStore yX5_requireStore, Cond.code yX5_requireStore cX5_requireStore 1 none, Cond.methodLink RX5 217 yX3_exists, Cond.methodLink RX5 161 yX3_writeInTurn, Cond.methodLink RL 138 yL_tryLay, Cond.static yL_tryLay, Cond.codeWith yL_tryLay cL_tryLay 4 (some .int) [(0, 6, 7, 13)], Cond.methodLink RL 66 yX5_set, Cond.instanceMethod yX5_set, Cond.selects RX5 yX5_set yX5_set, Cond.code yX5_set cX5_set 4 (some .int), Cond.methodLink RX5 164 yX5_isSettingValue, Cond.static yX5_isSettingValue, Cond.code yX5_isSettingValue cX5_isSettingValue 2 (some .boolean), Cond.methodLink RX5 169 yX3_changeSetting, Cond.instanceMethod yX3_changeSetting, Cond.selects RX3 yX3_changeSetting yX3_changeSetting, Cond.code yX3_changeSetting cX3_changeSetting 3 none, Cond.methodLink RL 141 yL_tryUndo, Cond.static yL_tryUndo, Cond.codeWith yL_tryUndo cL_tryUndo 2 (some .int) [(0, 4, 5, 24)], Cond.methodLink RL 69 yX5_undo, Cond.instanceMethod yX5_undo, Cond.selects RX5 yX5_undo yX5_undo]
def wsL_act_r16 : List Cond := [Cond.code yX5_undo cX5_undo 1 (some .int), Cond.methodLink RX5 173 yX0_takeBack, Cond.instanceMethod yX0_takeBack, Cond.selects RX0 yX0_takeBack yX0_takeBack, Cond.code yX0_takeBack cX0_takeBack 3 (some .boolean), Cond.methodLink RX5 179 yX0_size, Cond.instanceMethod yX0_size, Cond.selects RX0 yX0_size yX0_size, Cond.code yX0_size cX0_size 1 (some .int), Cond.methodLink RL 144 yL_tryLife, Cond.static yL_tryLife, Cond.codeWith yL_tryLife cL_tryLife 3 (some .int) [(0, 5, 6, 37)], Cond.methodLink RL 72 yX5_life, Cond.instanceMethod yX5_life, Cond.selects RX5 yX5_life yX5_life, Cond.code yX5_life cX5_life 2 (some .int), Cond.fieldLink RX5 23 "GapLines" "copy" "LGapLines$State;", Cond.methodLink RX5 182 yX3_copyFrom, Cond.methodLink RL 147 yL_tryLong, Cond.static yL_tryLong, Cond.codeWith yL_tryLong cL_tryLong 2 (some .int) [(0, 4, 5, 24)], Cond.methodLink RL 75 yX5_lifeOfAll, Cond.instanceMethod yX5_lifeOfAll, Cond.selects RX5 yX5_lifeOfAll yX5_lifeOfAll]
def wsL_act_r17 : List Cond := [Cond.code yX5_lifeOfAll cX5_lifeOfAll 1 (some .int), Cond.methodLink RL 150 yL_tryEvery, Cond.static yL_tryEvery, Cond.codeWith yL_tryEvery cL_tryEvery 5 (some .int) [(0, 7, 8, 37), (0, 7, 13, 13)], Cond.methodLink RL 78 yX5_ifEvery, Cond.instanceMethod yX5_ifEvery, Cond.selects RX5 yX5_ifEvery yX5_ifEvery, Cond.code yX5_ifEvery cX5_ifEvery 4 (some .int), Cond.methodLink RX5 187 yX5_wearIfEvery, Cond.instanceMethod yX5_wearIfEvery, Cond.selects RX5 yX5_wearIfEvery yX5_wearIfEvery, Cond.code yX5_wearIfEvery cX5_wearIfEvery 4 (some .int), Cond.fieldLink RX5 276 "GapLines$State" "every" "I", Cond.methodLink RX5 227 yX3_greatestWear, Cond.methodLink RL 153 yL_tryBest, Cond.static yL_tryBest, Cond.codeWith yL_tryBest cL_tryBest 4 (some .int) [(0, 6, 7, 37), (0, 6, 11, 13)], Cond.methodLink RL 81 yX5_bestEvery, Cond.instanceMethod yX5_bestEvery, Cond.selects RX5 yX5_bestEvery yX5_bestEvery, Cond.code yX5_bestEvery cX5_bestEvery 7 (some .int), Cond.methodLink RL 156 yL_tryMoves, Cond.static yL_tryMoves, Cond.codeWith yL_tryMoves cL_tryMoves 3 (some .int) [(0, 5, 6, 37)]]
def wsL_act_r18 : List Cond := [Cond.methodLink RL 84 yX5_movesTo, Cond.instanceMethod yX5_movesTo, Cond.selects RX5 yX5_movesTo yX5_movesTo, Cond.code yX5_movesTo cX5_movesTo 2 (some .int), Cond.methodLink RX5 191 yX3_movesUntilMoved, Cond.instanceMethod yX3_movesUntilMoved, Cond.selects RX3 yX3_movesUntilMoved yX3_movesUntilMoved, Cond.code yX3_movesUntilMoved cX3_movesUntilMoved 3 (some .int), Cond.methodLink RL 159 yL_tryBehind, Cond.static yL_tryBehind, Cond.codeWith yL_tryBehind cL_tryBehind 4 (some .int) [(0, 6, 7, 37), (0, 6, 11, 13)], Cond.methodLink RL 87 yX5_placeBehind, Cond.instanceMethod yX5_placeBehind, Cond.selects RX5 yX5_placeBehind yX5_placeBehind, Cond.code yX5_placeBehind cX5_placeBehind 3 (some .int), Cond.methodLink RX5 196 yX3_placeAfterMoves, Cond.instanceMethod yX3_placeAfterMoves, Cond.selects RX3 yX3_placeAfterMoves yX3_placeAfterMoves, Cond.code yX3_placeAfterMoves cX3_placeAfterMoves 7 (some .int), Cond.methodLink RL 162 yL_tryKeep, Cond.static yL_tryKeep, Cond.codeWith yL_tryKeep cL_tryKeep 3 (some .int) [(0, 5, 6, 37)], Cond.methodLink RL 90 yX5_save, Cond.instanceMethod yX5_save]
def wsL_act_r19 : List Cond := [Cond.selects RX5 yX5_save yX5_save, Cond.code yX5_save cX5_save 2 (some .int), Cond.fieldLink RX5 237 "GapLines$State" "writes" "I", Cond.methodLink RX5 230 yX5_requireSlot, Cond.static yX5_requireSlot, Cond.code yX5_requireSlot cX5_requireSlot 1 none, Cond.methodLink RX5 268 yX2_has, Cond.static yX2_has, Cond.code yX2_has cX2_has 1 (some .boolean), Cond.methodLink RX5 233 yX2_keep, Cond.instanceMethod yX2_keep, Cond.selects RX2 yX2_keep yX2_keep, Cond.code yX2_keep cX2_keep 3 none, Cond.fieldLink RX2 11 "GapLines$Slots" "states" "[LGapLines$State;", Cond.classLink RX2 9 RX3, Cond.methodLink RX2 19 yX2_has, Cond.methodLink RX2 24 yX3_copyFrom, Cond.methodLink RL 165 yL_tryBack, Cond.static yL_tryBack, Cond.codeWith yL_tryBack cL_tryBack 3 (some .int) [(0, 5, 6, 37), (0, 5, 10, 24)], Cond.methodLink RL 93 yX5_restore, Cond.instanceMethod yX5_restore, Cond.selects RX5 yX5_restore yX5_restore, Cond.code yX5_restore cX5_restore 2 (some .int)]
def wsL_act_r20 : List Cond := [Cond.methodLink RX5 240 yX2_bringBack, Cond.instanceMethod yX2_bringBack, Cond.selects RX2 yX2_bringBack yX2_bringBack, Cond.code yX2_bringBack cX2_bringBack 3 (some .boolean), Cond.methodLink RL 180 yL_doSimulate, Cond.static yL_doSimulate, Cond.codeWith yL_doSimulate cL_doSimulate 5 (some .int) [(0, 6, 7, 13)], Cond.methodLink RL 16 yX5_simulate, Cond.instanceMethod yX5_simulate, Cond.selects RX5 yX5_simulate yX5_simulate, Cond.code yX5_simulate cX5_simulate 4 (some .int), Cond.fieldLink RX5 224 "GapLines$State" "moves" "I", Cond.methodLink RX5 220 yX3_writeByChance, Cond.instanceMethod yX3_writeByChance, Cond.selects RX3 yX3_writeByChance yX3_writeByChance, Cond.code yX3_writeByChance cX3_writeByChance 9 none, Cond.constantLong RX3 116 (6364136223846793005), Cond.constantLong RX3 118 (1442695040888963407)]
def wsL_act : List Cond := .code yL_act cL_act 4 (some .int) :: ((wsL_act_r1 ++ (wsL_act_r2 ++ (wsL_act_r3 ++ (wsL_act_r4 ++ (wsL_act_r5 ++ (wsL_act_r6 ++ (wsL_act_r7 ++ (wsL_act_r8 ++ (wsL_act_r9 ++ (wsL_act_r10 ++ (wsL_act_r11 ++ (wsL_act_r12 ++ (wsL_act_r13 ++ (wsL_act_r14 ++ (wsL_act_r15 ++ (wsL_act_r16 ++ (wsL_act_r17 ++ (wsL_act_r18 ++ (wsL_act_r19 ++ wsL_act_r20))))))))))))))))))) ++ wsX50 ++ wsX40 ++ wsX00 ++ wsX20 ++ wsX30 ++ (vx_atS RX5 44 "java/lang/IllegalArgumentException" ["java/lang/RuntimeException", "java/lang/Exception"]).filter goodWord ++ (vx_atS RX5 55 "java/lang/IllegalStateException" ["java/lang/RuntimeException", "java/lang/Exception"]).filter goodWord ++ (vx_atS RX5 253 "java/lang/IndexOutOfBoundsException" ["java/lang/RuntimeException", "java/lang/Exception"]).filter goodWord)
def wsL_alike_r1 : List Cond := [Cond.methodLink RL 170 yL_call, Cond.static yL_call, Cond.initialized RL, Cond.code yL_call cL_call 5 (some .int), Cond.methodLink RL 96 yL_tryAppend, Cond.static yL_tryAppend, Cond.codeWith yL_tryAppend cL_tryAppend 3 (some .int) [(0, 5, 6, 13), (0, 5, 10, 24)], Cond.classLink RL 13 "java/lang/IllegalArgumentException", Cond.classLink RL 24 "java/lang/IllegalStateException", Cond.constant RL 15 (-9999002), Cond.constant RL 26 (-9999003), Cond.methodLink RL 20 yX5_append, Cond.instanceMethod yX5_append, Cond.selects RX5 yX5_append yX5_append, Cond.initialized RX5, Cond.code yX5_append cX5_append 2 (some .int), Cond.classLink RX5 40 "java/lang/IllegalArgumentException", Cond.initialized "java/lang/IllegalArgumentException", Cond.classLink RX5 51 "java/lang/IllegalStateException", Cond.initialized "java/lang/IllegalStateException", Cond.fieldLink RX5 10 "GapLines" "text" "LGapLines$Text;", Cond.methodLink RX5 47 yX4_isFull, Cond.instanceMethod yX4_isFull, Cond.selects RX4 yX4_isFull yX4_isFull]
def wsL_alike_r2 : List Cond := [Cond.initialized RX4, Cond.code yX4_isFull cX4_isFull 1 (some .boolean), Cond.fieldLink RX4 15 "GapLines$Text" "length" "I", Cond.methodLink RX5 56 yX4_add, Cond.instanceMethod yX4_add, Cond.selects RX4 yX4_add yX4_add, Cond.code yX4_add cX4_add 2 (some .int), Cond.fieldLink RX4 11 "GapLines$Text" "signs" "[C", Cond.methodLink RX4 19 yX4_isFull, Cond.methodLink RL 102 yL_tryLoad, Cond.static yL_tryLoad, Cond.codeWith yL_tryLoad cL_tryLoad 2 (some .int) [(0, 4, 5, 24)], Cond.methodLink RL 27 yX5_load, Cond.instanceMethod yX5_load, Cond.selects RX5 yX5_load yX5_load, Cond.code yX5_load cX5_load 1 (some .int), Cond.fieldLink RX5 29 "GapLines" "history" "LGapLines$History;", Cond.fieldLink RX5 36 "GapLines" "slots" "LGapLines$Slots;", Cond.fieldLink RX5 19 "GapLines" "state" "LGapLines$State;", Cond.methodLink RX5 64 yX4_firstError, Cond.instanceMethod yX4_firstError, Cond.selects RX4 yX4_firstError yX4_firstError, Cond.code yX4_firstError cX4_firstError 4 (some .int), Cond.methodLink RX4 23 yX4_errorInHead]
def wsL_alike_r3 : List Cond := [Cond.instanceMethod yX4_errorInHead, Cond.selects RX4 yX4_errorInHead yX4_errorInHead, Cond.code yX4_errorInHead cX4_errorInHead 2 (some .int), Cond.methodLink RX4 34 yX4_signAt, Cond.instanceMethod yX4_signAt, Cond.selects RX4 yX4_signAt yX4_signAt, Cond.code yX4_signAt cX4_signAt 2 (some .char), Cond.methodLink RX4 38 yX4_errorInNumber, Cond.instanceMethod yX4_errorInNumber, Cond.selects RX4 yX4_errorInNumber yX4_errorInNumber, Cond.code yX4_errorInNumber cX4_errorInNumber 9 (some .int), Cond.methodLink RX4 27 yX4_errorInCommand, Cond.instanceMethod yX4_errorInCommand, Cond.selects RX4 yX4_errorInCommand yX4_errorInCommand, Cond.code yX4_errorInCommand cX4_errorInCommand 3 (some .int), Cond.methodLink RX4 31 yX4_commandLength, Cond.instanceMethod yX4_commandLength, Cond.selects RX4 yX4_commandLength yX4_commandLength, Cond.code yX4_commandLength cX4_commandLength 2 (some .int), Cond.methodLink RX5 69 yX0_forgetAll, Cond.instanceMethod yX0_forgetAll, Cond.selects RX0 yX0_forgetAll yX0_forgetAll, Cond.initialized RX0, Cond.code yX0_forgetAll cX0_forgetAll 1 none]
def wsL_alike_r4 : List Cond := [Cond.fieldLink RX0 15 "GapLines$History" "size" "I", Cond.methodLink RX5 72 yX2_forgetAll, Cond.instanceMethod yX2_forgetAll, Cond.selects RX2 yX2_forgetAll yX2_forgetAll, Cond.initialized RX2, Cond.code yX2_forgetAll cX2_forgetAll 2 none, Cond.fieldLink RX2 15 "GapLines$Slots" "filled" "[Z", Cond.methodLink RX5 73 yX3_beginAnew, Cond.instanceMethod yX3_beginAnew, Cond.selects RX3 yX3_beginAnew yX3_beginAnew, Cond.initialized RX3, Cond.code yX3_beginAnew cX3_beginAnew 1 none, Cond.fieldLink RX3 9 "GapLines$State" "endurance" "I", Cond.fieldLink RX3 15 "GapLines$State" "every" "I", Cond.methodLink RX3 65 yX3_begin, Cond.instanceMethod yX3_begin, Cond.selects RX3 yX3_begin yX3_begin, Cond.code yX3_begin cX3_begin 5 none, Cond.fieldLink RX3 25 "GapLines$State" "lines" "I", Cond.fieldLink RX3 28 "GapLines$State" "key" "I", Cond.fieldLink RX3 31 "GapLines$State" "start" "I", Cond.fieldLink RX3 34 "GapLines$State" "gap" "I", Cond.fieldLink RX3 37 "GapLines$State" "spares" "I", Cond.fieldLink RX3 40 "GapLines$State" "writes" "I"]
def wsL_alike_r5 : List Cond := [Cond.fieldLink RX3 43 "GapLines$State" "moves" "I", Cond.fieldLink RX3 46 "GapLines$State" "writesSinceMove" "I", Cond.fieldLink RX3 49 "GapLines$State" "replaced" "I", Cond.fieldLink RX3 52 "GapLines$State" "laid" "I", Cond.fieldLink RX3 55 "GapLines$State" "dead" "Z", Cond.fieldLink RX3 18 "GapLines$State" "values" "[I", Cond.fieldLink RX3 22 "GapLines$State" "wears" "[I", Cond.methodLink RX5 76 yX4_tellTo, Cond.instanceMethod yX4_tellTo, Cond.selects RX4 yX4_tellTo yX4_tellTo, Cond.code yX4_tellTo cX4_tellTo 6 (some .int), Cond.methodLink RX4 42 yX4_numberAt, Cond.instanceMethod yX4_numberAt, Cond.selects RX4 yX4_numberAt yX4_numberAt, Cond.code yX4_numberAt cX4_numberAt 5 (some .int), Cond.static yX5_isShape, Cond.code yX5_isShape cX5_isShape 2 (some .boolean), Cond.methodLink RX5 273 yX5_haveCommonDivisor, Cond.static yX5_haveCommonDivisor, Cond.code yX5_haveCommonDivisor cX5_haveCommonDivisor 3 (some .boolean), Cond.methodLink RX4 50 yX3_begin, Cond.methodLink RX4 56 yX3_doWrite, Cond.instanceMethod yX3_doWrite, Cond.selects RX3 yX3_doWrite yX3_doWrite]
def wsL_alike_r6 : List Cond := [Cond.code yX3_doWrite cX3_doWrite 3 (some .boolean), Cond.methodLink RX3 85 yX3_hasLine, Cond.instanceMethod yX3_hasLine, Cond.selects RX3 yX3_hasLine yX3_hasLine, Cond.code yX3_hasLine cX3_hasLine 2 (some .boolean), Cond.static yX5_isValue, Cond.code yX5_isValue cX5_isValue 1 (some .boolean), Cond.methodLink RX3 109 yX3_writeLine, Cond.instanceMethod yX3_writeLine, Cond.selects RX3 yX3_writeLine yX3_writeLine, Cond.code yX3_writeLine cX3_writeLine 4 (some .int), Cond.methodLink RX3 95 yX3_placeOf, Cond.instanceMethod yX3_placeOf, Cond.selects RX3 yX3_placeOf yX3_placeOf, Cond.code yX3_placeOf cX3_placeOf 3 (some .int), Cond.methodLink RX3 92 yX3_rankOf, Cond.instanceMethod yX3_rankOf, Cond.selects RX3 yX3_rankOf yX3_rankOf, Cond.code yX3_rankOf cX3_rankOf 3 (some .int), Cond.methodLink RX3 99 yX3_layAt, Cond.instanceMethod yX3_layAt, Cond.selects RX3 yX3_layAt yX3_layAt, Cond.code yX3_layAt cX3_layAt 2 none, Cond.methodLink RX3 103 yX3_moveGap]
def wsL_alike_r7 : List Cond := [Cond.instanceMethod yX3_moveGap, Cond.selects RX3 yX3_moveGap yX3_moveGap, Cond.code yX3_moveGap cX3_moveGap 1 none, Cond.methodLink RX4 59 yX3_doHammer, Cond.instanceMethod yX3_doHammer, Cond.selects RX3 yX3_doHammer yX3_doHammer, Cond.code yX3_doHammer cX3_doHammer 3 (some .boolean), Cond.static yX5_isHammered, Cond.code yX5_isHammered cX5_isHammered 1 (some .boolean), Cond.methodLink RX3 126 yX3_hammerLine, Cond.instanceMethod yX3_hammerLine, Cond.selects RX3 yX3_hammerLine yX3_hammerLine, Cond.code yX3_hammerLine cX3_hammerLine 4 (some .int), Cond.methodLink RX3 106 yX3_valueOf, Cond.instanceMethod yX3_valueOf, Cond.selects RX3 yX3_valueOf yX3_valueOf, Cond.code yX3_valueOf cX3_valueOf 2 (some .int), Cond.methodLink RX4 62 yX3_doAll, Cond.instanceMethod yX3_doAll, Cond.selects RX3 yX3_doAll yX3_doAll, Cond.code yX3_doAll cX3_doAll 2 (some .boolean), Cond.static yX5_isRounds, Cond.code yX5_isRounds cX5_isRounds 1 (some .boolean), Cond.methodLink RX3 112 yX3_exists]
def wsL_alike_r8 : List Cond := [Cond.instanceMethod yX3_exists, Cond.selects RX3 yX3_exists yX3_exists, Cond.code yX3_exists cX3_exists 1 (some .boolean), Cond.methodLink RX3 132 yX3_writeInTurn, Cond.instanceMethod yX3_writeInTurn, Cond.selects RX3 yX3_writeInTurn yX3_writeInTurn, Cond.code yX3_writeInTurn cX3_writeInTurn 4 (some .int), Cond.methodLink RL 106 yL_tryAbout, Cond.static yL_tryAbout, Cond.codeWith yL_tryAbout cL_tryAbout 3 (some .int) [(0, 5, 6, 13)], Cond.methodLink RL 31 yX5_about, Cond.instanceMethod yX5_about, Cond.selects RX5 yX5_about yX5_about, Cond.code yX5_about cX5_about 2 (some .int), Cond.methodLink RX5 82 yX3_number, Cond.instanceMethod yX3_number, Cond.selects RX3 yX3_number yX3_number, Cond.code yX3_number cX3_number 2 (some .int), Cond.methodLink RX3 69 yX3_greatestWear, Cond.instanceMethod yX3_greatestWear, Cond.selects RX3 yX3_greatestWear yX3_greatestWear, Cond.code yX3_greatestWear cX3_greatestWear 3 (some .int), Cond.methodLink RX3 76 Lib.Math.max.name, Cond.static Lib.Math.max.name]
def wsL_alike_r9 : List Cond := [Cond.initialized "java/lang/Math", Cond.code Lib.Math.max.name Lib.Math.max.code 2 (some .int), Cond.methodLink RX3 73 yX3_leastWear, Cond.instanceMethod yX3_leastWear, Cond.selects RX3 yX3_leastWear yX3_leastWear, Cond.code yX3_leastWear cX3_leastWear 3 (some .int), Cond.methodLink RX3 82 Lib.Math.min.name, Cond.static Lib.Math.min.name, Cond.code Lib.Math.min.name Lib.Math.min.code 2 (some .int), Cond.methodLink RL 109 yL_tryRead, Cond.static yL_tryRead, Cond.codeWith yL_tryRead cL_tryRead 3 (some .int) [(0, 5, 6, 37)], Cond.classLink RL 37 "java/lang/IndexOutOfBoundsException", Cond.constant RL 39 (-9999001), Cond.methodLink RL 34 yX5_read, Cond.instanceMethod yX5_read, Cond.selects RX5 yX5_read yX5_read, Cond.code yX5_read cX5_read 2 (some .int), Cond.methodLink RX5 86 yX5_requireLine, Cond.instanceMethod yX5_requireLine, Cond.selects RX5 yX5_requireLine yX5_requireLine, Cond.code yX5_requireLine cX5_requireLine 2 none, Cond.classLink RX5 249 "java/lang/IndexOutOfBoundsException", Cond.initialized "java/lang/IndexOutOfBoundsException"]
def wsL_alike_r10 : List Cond := [Cond.methodLink RX5 246 yX3_hasLine, Cond.methodLink RX5 90 yX3_valueOf, Cond.methodLink RL 112 yL_tryPlace, Cond.static yL_tryPlace, Cond.codeWith yL_tryPlace cL_tryPlace 3 (some .int) [(0, 5, 6, 37)], Cond.methodLink RL 40 yX5_place, Cond.instanceMethod yX5_place, Cond.selects RX5 yX5_place yX5_place, Cond.code yX5_place cX5_place 2 (some .int), Cond.methodLink RX5 93 yX3_placeOf, Cond.methodLink RL 115 yL_tryLine, Cond.static yL_tryLine, Cond.codeWith yL_tryLine cL_tryLine 3 (some .int) [(0, 5, 6, 37)], Cond.methodLink RL 43 yX5_line, Cond.instanceMethod yX5_line, Cond.selects RX5 yX5_line yX5_line, Cond.code yX5_line cX5_line 2 (some .int), Cond.methodLink RX5 96 yX5_requirePlace, Cond.instanceMethod yX5_requirePlace, Cond.selects RX5 yX5_requirePlace yX5_requirePlace, Cond.code yX5_requirePlace cX5_requirePlace 2 none, Cond.methodLink RX5 254 yX3_hasPlace, Cond.instanceMethod yX3_hasPlace, Cond.selects RX3 yX3_hasPlace yX3_hasPlace]
def wsL_alike_r11 : List Cond := [Cond.code yX3_hasPlace cX3_hasPlace 2 (some .boolean), Cond.methodLink RX5 99 yX3_lineAt, Cond.instanceMethod yX3_lineAt, Cond.selects RX3 yX3_lineAt yX3_lineAt, Cond.code yX3_lineAt cX3_lineAt 4 (some .int), Cond.methodLink RL 118 yL_tryWear, Cond.static yL_tryWear, Cond.codeWith yL_tryWear cL_tryWear 3 (some .int) [(0, 5, 6, 37)], Cond.methodLink RL 46 yX5_wear, Cond.instanceMethod yX5_wear, Cond.selects RX5 yX5_wear yX5_wear, Cond.code yX5_wear cX5_wear 2 (some .int), Cond.methodLink RX5 102 yX3_wearOf, Cond.instanceMethod yX3_wearOf, Cond.selects RX3 yX3_wearOf yX3_wearOf, Cond.code yX3_wearOf cX3_wearOf 2 (some .int), Cond.methodLink RX3 89 yX3_hasPlace, Cond.methodLink RL 121 yL_trySetting, Cond.static yL_trySetting, Cond.codeWith yL_trySetting cL_trySetting 3 (some .int) [(0, 5, 6, 13)], Cond.methodLink RL 49 yX5_setting, Cond.instanceMethod yX5_setting, Cond.selects RX5 yX5_setting yX5_setting, Cond.code yX5_setting cX5_setting 2 (some .int)]
def wsL_alike_r12 : List Cond := [Cond.methodLink RX5 105 yX5_requireSetting, Cond.static yX5_requireSetting, Cond.code yX5_requireSetting cX5_requireSetting 1 none, Cond.methodLink RX5 108 yX3_settingOf, Cond.instanceMethod yX3_settingOf, Cond.selects RX3 yX3_settingOf yX3_settingOf, Cond.code yX3_settingOf cX3_settingOf 2 (some .int), Cond.methodLink RL 124 yL_tryMake, Cond.static yL_tryMake, Cond.codeWith yL_tryMake cL_tryMake 5 (some .int) [(0, 7, 8, 13)], Cond.methodLink RL 52 yX5_make, Cond.instanceMethod yX5_make, Cond.selects RX5 yX5_make yX5_make, Cond.code yX5_make cX5_make 4 (some .int), Cond.methodLink RX5 111 yX5_isShape, Cond.methodLink RX5 119 yX0_remember, Cond.instanceMethod yX0_remember, Cond.selects RX0 yX0_remember yX0_remember, Cond.code yX0_remember cX0_remember 2 none, Cond.fieldLink RX0 11 "GapLines$History" "states" "[LGapLines$State;", Cond.fieldLink RX0 19 "GapLines$History" "next" "I", Cond.classLink RX0 9 RX3, Cond.instantiable RX3 15, Cond.methodLink RX0 27 Lib.Math.min.name]
def wsL_alike_r13 : List Cond := [Cond.instanceMethod yX3_init, Cond.code yX3_init cX3_init 1 none, Cond.methodLink RX3 3 objectInit, Cond.instanceMethod objectInit, Cond.code objectInit ⟨#[0xb1]⟩ 1 none, Cond.arrayClass .int, Cond.methodLink RX0 23 yX3_copyFrom, Cond.instanceMethod yX3_copyFrom, Cond.selects RX3 yX3_copyFrom yX3_copyFrom, Cond.code yX3_copyFrom cX3_copyFrom 2 none, Cond.methodLink RX3 59 arraycopyName, Cond.native arraycopyName, Cond.static arraycopyName, Cond.initialized "java/lang/System", Cond.methodLink RX5 123 yX3_begin, Cond.methodLink RL 128 yL_tryWrite, Cond.static yL_tryWrite, Cond.codeWith yL_tryWrite cL_tryWrite 4 (some .int) [(0, 6, 7, 37), (0, 6, 11, 13), (0, 6, 15, 24)], Cond.methodLink RL 56 yX5_write, Cond.instanceMethod yX5_write, Cond.selects RX5 yX5_write yX5_write, Cond.code yX5_write cX5_write 3 (some .int), Cond.fieldLink RX5 133 "GapLines$State" "dead" "Z", Cond.methodLink RX5 127 yX5_isValue]
def wsL_alike_r14 : List Cond := [Cond.methodLink RX5 139 yX3_writeLine, Cond.methodLink RL 132 yL_tryHammer, Cond.static yL_tryHammer, Cond.codeWith yL_tryHammer cL_tryHammer 4 (some .int) [(0, 6, 7, 37), (0, 6, 11, 13)], Cond.methodLink RL 60 yX5_hammer, Cond.instanceMethod yX5_hammer, Cond.selects RX5 yX5_hammer yX5_hammer, Cond.code yX5_hammer cX5_hammer 3 (some .int), Cond.methodLink RX5 143 yX5_requireHammered, Cond.static yX5_requireHammered, Cond.code yX5_requireHammered cX5_requireHammered 1 none, Cond.methodLink RX5 263 yX5_isHammered, Cond.methodLink RX5 146 yX3_hammerLine, Cond.methodLink RL 135 yL_tryAll, Cond.static yL_tryAll, Cond.codeWith yL_tryAll cL_tryAll 3 (some .int) [(0, 5, 6, 13), (0, 5, 10, 24)], Cond.methodLink RL 63 yX5_all, Cond.instanceMethod yX5_all, Cond.selects RX5 yX5_all yX5_all, Cond.code yX5_all cX5_all 2 (some .int), Cond.fieldLink RX5 157 "GapLines$State" "lines" "I", Cond.methodLink RX5 149 yX5_isRounds, Cond.methodLink RX5 154 yX5_requireStore, Cond.instanceMethod yX5_requireStore]
def wsL_alike_r15 : List Cond := [Cond.selects RX5 yX5_requireStore yX5_requireStore, Cond.code yX5_requireStore cX5_requireStore 1 none, Cond.methodLink RX5 217 yX3_exists, Cond.methodLink RX5 161 yX3_writeInTurn, Cond.methodLink RL 138 yL_tryLay, Cond.static yL_tryLay, Cond.codeWith yL_tryLay cL_tryLay 4 (some .int) [(0, 6, 7, 13)], Cond.methodLink RL 66 yX5_set, Cond.instanceMethod yX5_set, Cond.selects RX5 yX5_set yX5_set, Cond.code yX5_set cX5_set 4 (some .int), Cond.methodLink RX5 164 yX5_isSettingValue, Cond.static yX5_isSettingValue, Cond.code yX5_isSettingValue cX5_isSettingValue 2 (some .boolean), Cond.methodLink RX5 169 yX3_changeSetting, Cond.instanceMethod yX3_changeSetting, Cond.selects RX3 yX3_changeSetting yX3_changeSetting, Cond.code yX3_changeSetting cX3_changeSetting 3 none, Cond.methodLink RL 141 yL_tryUndo, Cond.static yL_tryUndo, Cond.codeWith yL_tryUndo cL_tryUndo 2 (some .int) [(0, 4, 5, 24)], Cond.methodLink RL 69 yX5_undo, Cond.instanceMethod yX5_undo, Cond.selects RX5 yX5_undo yX5_undo]
def wsL_alike_r16 : List Cond := [Cond.code yX5_undo cX5_undo 1 (some .int), Cond.methodLink RX5 173 yX0_takeBack, Cond.instanceMethod yX0_takeBack, Cond.selects RX0 yX0_takeBack yX0_takeBack, Cond.code yX0_takeBack cX0_takeBack 3 (some .boolean), Cond.methodLink RX5 179 yX0_size, Cond.instanceMethod yX0_size, Cond.selects RX0 yX0_size yX0_size, Cond.code yX0_size cX0_size 1 (some .int), Cond.methodLink RL 144 yL_tryLife, Cond.static yL_tryLife, Cond.codeWith yL_tryLife cL_tryLife 3 (some .int) [(0, 5, 6, 37)], Cond.methodLink RL 72 yX5_life, Cond.instanceMethod yX5_life, Cond.selects RX5 yX5_life yX5_life, Cond.code yX5_life cX5_life 2 (some .int), Cond.fieldLink RX5 23 "GapLines" "copy" "LGapLines$State;", Cond.methodLink RX5 182 yX3_copyFrom, Cond.methodLink RL 147 yL_tryLong, Cond.static yL_tryLong, Cond.codeWith yL_tryLong cL_tryLong 2 (some .int) [(0, 4, 5, 24)], Cond.methodLink RL 75 yX5_lifeOfAll, Cond.instanceMethod yX5_lifeOfAll, Cond.selects RX5 yX5_lifeOfAll yX5_lifeOfAll]
def wsL_alike_r17 : List Cond := [Cond.code yX5_lifeOfAll cX5_lifeOfAll 1 (some .int), Cond.methodLink RL 150 yL_tryEvery, Cond.static yL_tryEvery, Cond.codeWith yL_tryEvery cL_tryEvery 5 (some .int) [(0, 7, 8, 37), (0, 7, 13, 13)], Cond.methodLink RL 78 yX5_ifEvery, Cond.instanceMethod yX5_ifEvery, Cond.selects RX5 yX5_ifEvery yX5_ifEvery, Cond.code yX5_ifEvery cX5_ifEvery 4 (some .int), Cond.methodLink RX5 187 yX5_wearIfEvery, Cond.instanceMethod yX5_wearIfEvery, Cond.selects RX5 yX5_wearIfEvery yX5_wearIfEvery, Cond.code yX5_wearIfEvery cX5_wearIfEvery 4 (some .int), Cond.fieldLink RX5 276 "GapLines$State" "every" "I", Cond.methodLink RX5 227 yX3_greatestWear, Cond.methodLink RL 153 yL_tryBest, Cond.static yL_tryBest, Cond.codeWith yL_tryBest cL_tryBest 4 (some .int) [(0, 6, 7, 37), (0, 6, 11, 13)], Cond.methodLink RL 81 yX5_bestEvery, Cond.instanceMethod yX5_bestEvery, Cond.selects RX5 yX5_bestEvery yX5_bestEvery, Cond.code yX5_bestEvery cX5_bestEvery 7 (some .int), Cond.methodLink RL 156 yL_tryMoves, Cond.static yL_tryMoves, Cond.codeWith yL_tryMoves cL_tryMoves 3 (some .int) [(0, 5, 6, 37)]]
def wsL_alike_r18 : List Cond := [Cond.methodLink RL 84 yX5_movesTo, Cond.instanceMethod yX5_movesTo, Cond.selects RX5 yX5_movesTo yX5_movesTo, Cond.code yX5_movesTo cX5_movesTo 2 (some .int), Cond.methodLink RX5 191 yX3_movesUntilMoved, Cond.instanceMethod yX3_movesUntilMoved, Cond.selects RX3 yX3_movesUntilMoved yX3_movesUntilMoved, Cond.code yX3_movesUntilMoved cX3_movesUntilMoved 3 (some .int), Cond.methodLink RL 159 yL_tryBehind, Cond.static yL_tryBehind, Cond.codeWith yL_tryBehind cL_tryBehind 4 (some .int) [(0, 6, 7, 37), (0, 6, 11, 13)], Cond.methodLink RL 87 yX5_placeBehind, Cond.instanceMethod yX5_placeBehind, Cond.selects RX5 yX5_placeBehind yX5_placeBehind, Cond.code yX5_placeBehind cX5_placeBehind 3 (some .int), Cond.methodLink RX5 196 yX3_placeAfterMoves, Cond.instanceMethod yX3_placeAfterMoves, Cond.selects RX3 yX3_placeAfterMoves yX3_placeAfterMoves, Cond.code yX3_placeAfterMoves cX3_placeAfterMoves 7 (some .int), Cond.methodLink RL 162 yL_tryKeep, Cond.static yL_tryKeep, Cond.codeWith yL_tryKeep cL_tryKeep 3 (some .int) [(0, 5, 6, 37)], Cond.methodLink RL 90 yX5_save, Cond.instanceMethod yX5_save]
def wsL_alike_r19 : List Cond := [Cond.selects RX5 yX5_save yX5_save, Cond.code yX5_save cX5_save 2 (some .int), Cond.fieldLink RX5 237 "GapLines$State" "writes" "I", Cond.methodLink RX5 230 yX5_requireSlot, Cond.static yX5_requireSlot, Cond.code yX5_requireSlot cX5_requireSlot 1 none, Cond.methodLink RX5 268 yX2_has, Cond.static yX2_has, Cond.code yX2_has cX2_has 1 (some .boolean), Cond.methodLink RX5 233 yX2_keep, Cond.instanceMethod yX2_keep, Cond.selects RX2 yX2_keep yX2_keep, Cond.code yX2_keep cX2_keep 3 none, Cond.fieldLink RX2 11 "GapLines$Slots" "states" "[LGapLines$State;", Cond.classLink RX2 9 RX3, Cond.methodLink RX2 19 yX2_has, Cond.methodLink RX2 24 yX3_copyFrom, Cond.methodLink RL 165 yL_tryBack, Cond.static yL_tryBack, Cond.codeWith yL_tryBack cL_tryBack 3 (some .int) [(0, 5, 6, 37), (0, 5, 10, 24)], Cond.methodLink RL 93 yX5_restore, Cond.instanceMethod yX5_restore, Cond.selects RX5 yX5_restore yX5_restore, Cond.code yX5_restore cX5_restore 2 (some .int)]
def wsL_alike_r20 : List Cond := [Cond.methodLink RX5 240 yX2_bringBack, Cond.instanceMethod yX2_bringBack, Cond.selects RX2 yX2_bringBack yX2_bringBack, Cond.code yX2_bringBack cX2_bringBack 3 (some .boolean), Cond.methodLink RL 180 yL_doSimulate, Cond.static yL_doSimulate, Cond.codeWith yL_doSimulate cL_doSimulate 5 (some .int) [(0, 6, 7, 13)], Cond.methodLink RL 16 yX5_simulate, Cond.instanceMethod yX5_simulate, Cond.selects RX5 yX5_simulate yX5_simulate, Cond.code yX5_simulate cX5_simulate 4 (some .int), Cond.fieldLink RX5 224 "GapLines$State" "moves" "I", Cond.methodLink RX5 220 yX3_writeByChance, Cond.instanceMethod yX3_writeByChance, Cond.selects RX3 yX3_writeByChance yX3_writeByChance, Cond.code yX3_writeByChance cX3_writeByChance 9 none, Cond.constantLong RX3 116 (6364136223846793005), Cond.constantLong RX3 118 (1442695040888963407)]
def wsL_alike : List Cond := .code yL_alike cL_alike 6 (some .boolean) :: ((wsL_alike_r1 ++ (wsL_alike_r2 ++ (wsL_alike_r3 ++ (wsL_alike_r4 ++ (wsL_alike_r5 ++ (wsL_alike_r6 ++ (wsL_alike_r7 ++ (wsL_alike_r8 ++ (wsL_alike_r9 ++ (wsL_alike_r10 ++ (wsL_alike_r11 ++ (wsL_alike_r12 ++ (wsL_alike_r13 ++ (wsL_alike_r14 ++ (wsL_alike_r15 ++ (wsL_alike_r16 ++ (wsL_alike_r17 ++ (wsL_alike_r18 ++ (wsL_alike_r19 ++ wsL_alike_r20))))))))))))))))))) ++ wsX50 ++ wsX40 ++ wsX00 ++ wsX20 ++ wsX30 ++ (vx_atS RX5 44 "java/lang/IllegalArgumentException" ["java/lang/RuntimeException", "java/lang/Exception"]).filter goodWord ++ (vx_atS RX5 55 "java/lang/IllegalStateException" ["java/lang/RuntimeException", "java/lang/Exception"]).filter goodWord ++ (vx_atS RX5 253 "java/lang/IndexOutOfBoundsException" ["java/lang/RuntimeException", "java/lang/Exception"]).filter goodWord)
def wsL_law0_r1 : List Cond := [Cond.classLink RL 8 RX5, Cond.instantiable RX5 5, Cond.initialized RX5, Cond.constant RL 197 (100000), Cond.methodLink RL 185 yX5_init, Cond.instanceMethod yX5_init, Cond.code yX5_init cX5_init 1 none, Cond.methodLink RX5 1 objectInit, Cond.instanceMethod objectInit, Cond.code objectInit ⟨#[0xb1]⟩ 1 none, Cond.classLink RX5 7 RX4, Cond.instantiable RX4 2, Cond.initialized RX4, Cond.fieldLink RX5 10 "GapLines" "text" "LGapLines$Text;", Cond.classLink RX5 16 RX3, Cond.instantiable RX3 15, Cond.initialized RX3, Cond.fieldLink RX5 19 "GapLines" "state" "LGapLines$State;", Cond.fieldLink RX5 23 "GapLines" "copy" "LGapLines$State;", Cond.classLink RX5 26 RX0, Cond.instantiable RX0 3, Cond.initialized RX0, Cond.fieldLink RX5 29 "GapLines" "history" "LGapLines$History;", Cond.classLink RX5 33 RX2]
def wsL_law0_r2 : List Cond := [Cond.instantiable RX2 2, Cond.initialized RX2, Cond.fieldLink RX5 36 "GapLines" "slots" "LGapLines$Slots;", Cond.instanceMethod yX4_init, Cond.code yX4_init cX4_init 1 none, Cond.methodLink RX4 3 objectInit, Cond.arrayClass .char, Cond.fieldLink RX4 11 "GapLines$Text" "signs" "[C", Cond.instanceMethod yX3_init, Cond.code yX3_init cX3_init 1 none, Cond.methodLink RX3 3 objectInit, Cond.fieldLink RX3 9 "GapLines$State" "endurance" "I", Cond.fieldLink RX3 15 "GapLines$State" "every" "I", Cond.arrayClass .int, Cond.fieldLink RX3 18 "GapLines$State" "values" "[I", Cond.fieldLink RX3 22 "GapLines$State" "wears" "[I", Cond.instanceMethod yX0_init, Cond.code yX0_init cX0_init 1 none, Cond.methodLink RX0 1 objectInit, Cond.classLink RX0 9 RX3, Cond.fieldLink RX0 11 "GapLines$History" "states" "[LGapLines$State;", Cond.instanceMethod yX2_init, Cond.code yX2_init cX2_init 1 none, Cond.methodLink RX2 1 objectInit]
def wsL_law0_r3 : List Cond := [Cond.classLink RX2 9 RX3, Cond.fieldLink RX2 11 "GapLines$Slots" "states" "[LGapLines$State;", Cond.arrayClass .boolean, Cond.fieldLink RX2 15 "GapLines$Slots" "filled" "[Z", Cond.methodLink RL 186 yL_cell, Cond.static yL_cell, Cond.initialized RL, Cond.code yL_cell cL_cell 2 (some .int), Cond.constant RL 168 (15518993), Cond.constant RL 169 (2147483647), Cond.methodLink RL 170 yL_call, Cond.static yL_call, Cond.code yL_call cL_call 5 (some .int), Cond.methodLink RL 96 yL_tryAppend, Cond.static yL_tryAppend, Cond.codeWith yL_tryAppend cL_tryAppend 3 (some .int) [(0, 5, 6, 13), (0, 5, 10, 24)], Cond.classLink RL 13 "java/lang/IllegalArgumentException", Cond.classLink RL 24 "java/lang/IllegalStateException", Cond.constant RL 15 (-9999002), Cond.constant RL 26 (-9999003), Cond.methodLink RL 20 yX5_append, Cond.instanceMethod yX5_append, Cond.selects RX5 yX5_append yX5_append, Cond.code yX5_append cX5_append 2 (some .int)]
def wsL_law0_r4 : List Cond := [Cond.classLink RX5 40 "java/lang/IllegalArgumentException", Cond.initialized "java/lang/IllegalArgumentException", Cond.classLink RX5 51 "java/lang/IllegalStateException", Cond.initialized "java/lang/IllegalStateException", Cond.methodLink RX5 47 yX4_isFull, Cond.instanceMethod yX4_isFull, Cond.selects RX4 yX4_isFull yX4_isFull, Cond.code yX4_isFull cX4_isFull 1 (some .boolean), Cond.fieldLink RX4 15 "GapLines$Text" "length" "I", Cond.methodLink RX5 56 yX4_add, Cond.instanceMethod yX4_add, Cond.selects RX4 yX4_add yX4_add, Cond.code yX4_add cX4_add 2 (some .int), Cond.methodLink RX4 19 yX4_isFull, Cond.methodLink RL 102 yL_tryLoad, Cond.static yL_tryLoad, Cond.codeWith yL_tryLoad cL_tryLoad 2 (some .int) [(0, 4, 5, 24)], Cond.methodLink RL 27 yX5_load, Cond.instanceMethod yX5_load, Cond.selects RX5 yX5_load yX5_load, Cond.code yX5_load cX5_load 1 (some .int), Cond.methodLink RX5 64 yX4_firstError, Cond.instanceMethod yX4_firstError, Cond.selects RX4 yX4_firstError yX4_firstError]
def wsL_law0_r5 : List Cond := [Cond.code yX4_firstError cX4_firstError 4 (some .int), Cond.methodLink RX4 23 yX4_errorInHead, Cond.instanceMethod yX4_errorInHead, Cond.selects RX4 yX4_errorInHead yX4_errorInHead, Cond.code yX4_errorInHead cX4_errorInHead 2 (some .int), Cond.methodLink RX4 34 yX4_signAt, Cond.instanceMethod yX4_signAt, Cond.selects RX4 yX4_signAt yX4_signAt, Cond.code yX4_signAt cX4_signAt 2 (some .char), Cond.methodLink RX4 38 yX4_errorInNumber, Cond.instanceMethod yX4_errorInNumber, Cond.selects RX4 yX4_errorInNumber yX4_errorInNumber, Cond.code yX4_errorInNumber cX4_errorInNumber 9 (some .int), Cond.methodLink RX4 27 yX4_errorInCommand, Cond.instanceMethod yX4_errorInCommand, Cond.selects RX4 yX4_errorInCommand yX4_errorInCommand, Cond.code yX4_errorInCommand cX4_errorInCommand 3 (some .int), Cond.methodLink RX4 31 yX4_commandLength, Cond.instanceMethod yX4_commandLength, Cond.selects RX4 yX4_commandLength yX4_commandLength, Cond.code yX4_commandLength cX4_commandLength 2 (some .int), Cond.methodLink RX5 69 yX0_forgetAll, Cond.instanceMethod yX0_forgetAll, Cond.selects RX0 yX0_forgetAll yX0_forgetAll]
def wsL_law0_r6 : List Cond := [Cond.code yX0_forgetAll cX0_forgetAll 1 none, Cond.fieldLink RX0 15 "GapLines$History" "size" "I", Cond.methodLink RX5 72 yX2_forgetAll, Cond.instanceMethod yX2_forgetAll, Cond.selects RX2 yX2_forgetAll yX2_forgetAll, Cond.code yX2_forgetAll cX2_forgetAll 2 none, Cond.methodLink RX5 73 yX3_beginAnew, Cond.instanceMethod yX3_beginAnew, Cond.selects RX3 yX3_beginAnew yX3_beginAnew, Cond.code yX3_beginAnew cX3_beginAnew 1 none, Cond.methodLink RX3 65 yX3_begin, Cond.instanceMethod yX3_begin, Cond.selects RX3 yX3_begin yX3_begin, Cond.code yX3_begin cX3_begin 5 none, Cond.fieldLink RX3 25 "GapLines$State" "lines" "I", Cond.fieldLink RX3 28 "GapLines$State" "key" "I", Cond.fieldLink RX3 31 "GapLines$State" "start" "I", Cond.fieldLink RX3 34 "GapLines$State" "gap" "I", Cond.fieldLink RX3 37 "GapLines$State" "spares" "I", Cond.fieldLink RX3 40 "GapLines$State" "writes" "I", Cond.fieldLink RX3 43 "GapLines$State" "moves" "I", Cond.fieldLink RX3 46 "GapLines$State" "writesSinceMove" "I", Cond.fieldLink RX3 49 "GapLines$State" "replaced" "I", Cond.fieldLink RX3 52 "GapLines$State" "laid" "I"]
def wsL_law0_r7 : List Cond := [Cond.fieldLink RX3 55 "GapLines$State" "dead" "Z", Cond.methodLink RX5 76 yX4_tellTo, Cond.instanceMethod yX4_tellTo, Cond.selects RX4 yX4_tellTo yX4_tellTo, Cond.code yX4_tellTo cX4_tellTo 6 (some .int), Cond.methodLink RX4 42 yX4_numberAt, Cond.instanceMethod yX4_numberAt, Cond.selects RX4 yX4_numberAt yX4_numberAt, Cond.code yX4_numberAt cX4_numberAt 5 (some .int), Cond.static yX5_isShape, Cond.code yX5_isShape cX5_isShape 2 (some .boolean), Cond.methodLink RX5 273 yX5_haveCommonDivisor, Cond.static yX5_haveCommonDivisor, Cond.code yX5_haveCommonDivisor cX5_haveCommonDivisor 3 (some .boolean), Cond.methodLink RX4 50 yX3_begin, Cond.methodLink RX4 56 yX3_doWrite, Cond.instanceMethod yX3_doWrite, Cond.selects RX3 yX3_doWrite yX3_doWrite, Cond.code yX3_doWrite cX3_doWrite 3 (some .boolean), Cond.methodLink RX3 85 yX3_hasLine, Cond.instanceMethod yX3_hasLine, Cond.selects RX3 yX3_hasLine yX3_hasLine, Cond.code yX3_hasLine cX3_hasLine 2 (some .boolean), Cond.static yX5_isValue]
def wsL_law0_r8 : List Cond := [Cond.code yX5_isValue cX5_isValue 1 (some .boolean), Cond.methodLink RX3 109 yX3_writeLine, Cond.instanceMethod yX3_writeLine, Cond.selects RX3 yX3_writeLine yX3_writeLine, Cond.code yX3_writeLine cX3_writeLine 4 (some .int), Cond.methodLink RX3 95 yX3_placeOf, Cond.instanceMethod yX3_placeOf, Cond.selects RX3 yX3_placeOf yX3_placeOf, Cond.code yX3_placeOf cX3_placeOf 3 (some .int), Cond.methodLink RX3 92 yX3_rankOf, Cond.instanceMethod yX3_rankOf, Cond.selects RX3 yX3_rankOf yX3_rankOf, Cond.code yX3_rankOf cX3_rankOf 3 (some .int), Cond.methodLink RX3 99 yX3_layAt, Cond.instanceMethod yX3_layAt, Cond.selects RX3 yX3_layAt yX3_layAt, Cond.code yX3_layAt cX3_layAt 2 none, Cond.methodLink RX3 103 yX3_moveGap, Cond.instanceMethod yX3_moveGap, Cond.selects RX3 yX3_moveGap yX3_moveGap, Cond.code yX3_moveGap cX3_moveGap 1 none, Cond.methodLink RX4 59 yX3_doHammer, Cond.instanceMethod yX3_doHammer, Cond.selects RX3 yX3_doHammer yX3_doHammer]
def wsL_law0_r9 : List Cond := [Cond.code yX3_doHammer cX3_doHammer 3 (some .boolean), Cond.static yX5_isHammered, Cond.code yX5_isHammered cX5_isHammered 1 (some .boolean), Cond.methodLink RX3 126 yX3_hammerLine, Cond.instanceMethod yX3_hammerLine, Cond.selects RX3 yX3_hammerLine yX3_hammerLine, Cond.code yX3_hammerLine cX3_hammerLine 4 (some .int), Cond.methodLink RX3 106 yX3_valueOf, Cond.instanceMethod yX3_valueOf, Cond.selects RX3 yX3_valueOf yX3_valueOf, Cond.code yX3_valueOf cX3_valueOf 2 (some .int), Cond.methodLink RX4 62 yX3_doAll, Cond.instanceMethod yX3_doAll, Cond.selects RX3 yX3_doAll yX3_doAll, Cond.code yX3_doAll cX3_doAll 2 (some .boolean), Cond.static yX5_isRounds, Cond.code yX5_isRounds cX5_isRounds 1 (some .boolean), Cond.methodLink RX3 112 yX3_exists, Cond.instanceMethod yX3_exists, Cond.selects RX3 yX3_exists yX3_exists, Cond.code yX3_exists cX3_exists 1 (some .boolean), Cond.methodLink RX3 132 yX3_writeInTurn, Cond.instanceMethod yX3_writeInTurn, Cond.selects RX3 yX3_writeInTurn yX3_writeInTurn]
def wsL_law0_r10 : List Cond := [Cond.code yX3_writeInTurn cX3_writeInTurn 4 (some .int), Cond.methodLink RL 106 yL_tryAbout, Cond.static yL_tryAbout, Cond.codeWith yL_tryAbout cL_tryAbout 3 (some .int) [(0, 5, 6, 13)], Cond.methodLink RL 31 yX5_about, Cond.instanceMethod yX5_about, Cond.selects RX5 yX5_about yX5_about, Cond.code yX5_about cX5_about 2 (some .int), Cond.methodLink RX5 82 yX3_number, Cond.instanceMethod yX3_number, Cond.selects RX3 yX3_number yX3_number, Cond.code yX3_number cX3_number 2 (some .int), Cond.methodLink RX3 69 yX3_greatestWear, Cond.instanceMethod yX3_greatestWear, Cond.selects RX3 yX3_greatestWear yX3_greatestWear, Cond.code yX3_greatestWear cX3_greatestWear 3 (some .int), Cond.methodLink RX3 76 Lib.Math.max.name, Cond.static Lib.Math.max.name, Cond.initialized "java/lang/Math", Cond.code Lib.Math.max.name Lib.Math.max.code 2 (some .int), Cond.methodLink RX3 73 yX3_leastWear, Cond.instanceMethod yX3_leastWear, Cond.selects RX3 yX3_leastWear yX3_leastWear, Cond.code yX3_leastWear cX3_leastWear 3 (some .int)]
def wsL_law0_r11 : List Cond := [Cond.methodLink RX3 82 Lib.Math.min.name, Cond.static Lib.Math.min.name, Cond.code Lib.Math.min.name Lib.Math.min.code 2 (some .int), Cond.methodLink RL 109 yL_tryRead, Cond.static yL_tryRead, Cond.codeWith yL_tryRead cL_tryRead 3 (some .int) [(0, 5, 6, 37)], Cond.classLink RL 37 "java/lang/IndexOutOfBoundsException", Cond.constant RL 39 (-9999001), Cond.methodLink RL 34 yX5_read, Cond.instanceMethod yX5_read, Cond.selects RX5 yX5_read yX5_read, Cond.code yX5_read cX5_read 2 (some .int), Cond.methodLink RX5 86 yX5_requireLine, Cond.instanceMethod yX5_requireLine, Cond.selects RX5 yX5_requireLine yX5_requireLine, Cond.code yX5_requireLine cX5_requireLine 2 none, Cond.classLink RX5 249 "java/lang/IndexOutOfBoundsException", Cond.initialized "java/lang/IndexOutOfBoundsException", Cond.methodLink RX5 246 yX3_hasLine, Cond.methodLink RX5 90 yX3_valueOf, Cond.methodLink RL 112 yL_tryPlace, Cond.static yL_tryPlace, Cond.codeWith yL_tryPlace cL_tryPlace 3 (some .int) [(0, 5, 6, 37)], Cond.methodLink RL 40 yX5_place]
def wsL_law0_r12 : List Cond := [Cond.instanceMethod yX5_place, Cond.selects RX5 yX5_place yX5_place, Cond.code yX5_place cX5_place 2 (some .int), Cond.methodLink RX5 93 yX3_placeOf, Cond.methodLink RL 115 yL_tryLine, Cond.static yL_tryLine, Cond.codeWith yL_tryLine cL_tryLine 3 (some .int) [(0, 5, 6, 37)], Cond.methodLink RL 43 yX5_line, Cond.instanceMethod yX5_line, Cond.selects RX5 yX5_line yX5_line, Cond.code yX5_line cX5_line 2 (some .int), Cond.methodLink RX5 96 yX5_requirePlace, Cond.instanceMethod yX5_requirePlace, Cond.selects RX5 yX5_requirePlace yX5_requirePlace, Cond.code yX5_requirePlace cX5_requirePlace 2 none, Cond.methodLink RX5 254 yX3_hasPlace, Cond.instanceMethod yX3_hasPlace, Cond.selects RX3 yX3_hasPlace yX3_hasPlace, Cond.code yX3_hasPlace cX3_hasPlace 2 (some .boolean), Cond.methodLink RX5 99 yX3_lineAt, Cond.instanceMethod yX3_lineAt, Cond.selects RX3 yX3_lineAt yX3_lineAt, Cond.code yX3_lineAt cX3_lineAt 4 (some .int), Cond.methodLink RL 118 yL_tryWear]
def wsL_law0_r13 : List Cond := [Cond.static yL_tryWear, Cond.codeWith yL_tryWear cL_tryWear 3 (some .int) [(0, 5, 6, 37)], Cond.methodLink RL 46 yX5_wear, Cond.instanceMethod yX5_wear, Cond.selects RX5 yX5_wear yX5_wear, Cond.code yX5_wear cX5_wear 2 (some .int), Cond.methodLink RX5 102 yX3_wearOf, Cond.instanceMethod yX3_wearOf, Cond.selects RX3 yX3_wearOf yX3_wearOf, Cond.code yX3_wearOf cX3_wearOf 2 (some .int), Cond.methodLink RX3 89 yX3_hasPlace, Cond.methodLink RL 121 yL_trySetting, Cond.static yL_trySetting, Cond.codeWith yL_trySetting cL_trySetting 3 (some .int) [(0, 5, 6, 13)], Cond.methodLink RL 49 yX5_setting, Cond.instanceMethod yX5_setting, Cond.selects RX5 yX5_setting yX5_setting, Cond.code yX5_setting cX5_setting 2 (some .int), Cond.methodLink RX5 105 yX5_requireSetting, Cond.static yX5_requireSetting, Cond.code yX5_requireSetting cX5_requireSetting 1 none, Cond.methodLink RX5 108 yX3_settingOf, Cond.instanceMethod yX3_settingOf, Cond.selects RX3 yX3_settingOf yX3_settingOf]
def wsL_law0_r14 : List Cond := [Cond.code yX3_settingOf cX3_settingOf 2 (some .int), Cond.methodLink RL 124 yL_tryMake, Cond.static yL_tryMake, Cond.codeWith yL_tryMake cL_tryMake 5 (some .int) [(0, 7, 8, 13)], Cond.methodLink RL 52 yX5_make, Cond.instanceMethod yX5_make, Cond.selects RX5 yX5_make yX5_make, Cond.code yX5_make cX5_make 4 (some .int), Cond.methodLink RX5 111 yX5_isShape, Cond.methodLink RX5 119 yX0_remember, Cond.instanceMethod yX0_remember, Cond.selects RX0 yX0_remember yX0_remember, Cond.code yX0_remember cX0_remember 2 none, Cond.fieldLink RX0 19 "GapLines$History" "next" "I", Cond.methodLink RX0 27 Lib.Math.min.name, Cond.methodLink RX0 23 yX3_copyFrom, Cond.instanceMethod yX3_copyFrom, Cond.selects RX3 yX3_copyFrom yX3_copyFrom, Cond.code yX3_copyFrom cX3_copyFrom 2 none, Cond.methodLink RX3 59 arraycopyName, Cond.native arraycopyName, Cond.static arraycopyName, Cond.initialized "java/lang/System", Cond.methodLink RX5 123 yX3_begin]
def wsL_law0_r15 : List Cond := [Cond.methodLink RL 128 yL_tryWrite, Cond.static yL_tryWrite, Cond.codeWith yL_tryWrite cL_tryWrite 4 (some .int) [(0, 6, 7, 37), (0, 6, 11, 13), (0, 6, 15, 24)], Cond.methodLink RL 56 yX5_write, Cond.instanceMethod yX5_write, Cond.selects RX5 yX5_write yX5_write, Cond.code yX5_write cX5_write 3 (some .int), Cond.fieldLink RX5 133 "GapLines$State" "dead" "Z", Cond.methodLink RX5 127 yX5_isValue, Cond.methodLink RX5 139 yX3_writeLine, Cond.methodLink RL 132 yL_tryHammer, Cond.static yL_tryHammer, Cond.codeWith yL_tryHammer cL_tryHammer 4 (some .int) [(0, 6, 7, 37), (0, 6, 11, 13)], Cond.methodLink RL 60 yX5_hammer, Cond.instanceMethod yX5_hammer, Cond.selects RX5 yX5_hammer yX5_hammer, Cond.code yX5_hammer cX5_hammer 3 (some .int), Cond.methodLink RX5 143 yX5_requireHammered, Cond.static yX5_requireHammered, Cond.code yX5_requireHammered cX5_requireHammered 1 none, Cond.methodLink RX5 263 yX5_isHammered, Cond.methodLink RX5 146 yX3_hammerLine, Cond.methodLink RL 135 yL_tryAll, Cond.static yL_tryAll]
def wsL_law0_r16 : List Cond := [Cond.codeWith yL_tryAll cL_tryAll 3 (some .int) [(0, 5, 6, 13), (0, 5, 10, 24)], Cond.methodLink RL 63 yX5_all, Cond.instanceMethod yX5_all, Cond.selects RX5 yX5_all yX5_all, Cond.code yX5_all cX5_all 2 (some .int), Cond.fieldLink RX5 157 "GapLines$State" "lines" "I", Cond.methodLink RX5 149 yX5_isRounds, Cond.methodLink RX5 154 yX5_requireStore, Cond.instanceMethod yX5_requireStore, Cond.selects RX5 yX5_requireStore yX5_requireStore, Cond.code yX5_requireStore cX5_requireStore 1 none, Cond.methodLink RX5 217 yX3_exists, Cond.methodLink RX5 161 yX3_writeInTurn, Cond.methodLink RL 138 yL_tryLay, Cond.static yL_tryLay, Cond.codeWith yL_tryLay cL_tryLay 4 (some .int) [(0, 6, 7, 13)], Cond.methodLink RL 66 yX5_set, Cond.instanceMethod yX5_set, Cond.selects RX5 yX5_set yX5_set, Cond.code yX5_set cX5_set 4 (some .int), Cond.methodLink RX5 164 yX5_isSettingValue, Cond.static yX5_isSettingValue, Cond.code yX5_isSettingValue cX5_isSettingValue 2 (some .boolean), Cond.methodLink RX5 169 yX3_changeSetting]
def wsL_law0_r17 : List Cond := [Cond.instanceMethod yX3_changeSetting, Cond.selects RX3 yX3_changeSetting yX3_changeSetting, Cond.code yX3_changeSetting cX3_changeSetting 3 none, Cond.methodLink RL 141 yL_tryUndo, Cond.static yL_tryUndo, Cond.codeWith yL_tryUndo cL_tryUndo 2 (some .int) [(0, 4, 5, 24)], Cond.methodLink RL 69 yX5_undo, Cond.instanceMethod yX5_undo, Cond.selects RX5 yX5_undo yX5_undo, Cond.code yX5_undo cX5_undo 1 (some .int), Cond.methodLink RX5 173 yX0_takeBack, Cond.instanceMethod yX0_takeBack, Cond.selects RX0 yX0_takeBack yX0_takeBack, Cond.code yX0_takeBack cX0_takeBack 3 (some .boolean), Cond.methodLink RX5 179 yX0_size, Cond.instanceMethod yX0_size, Cond.selects RX0 yX0_size yX0_size, Cond.code yX0_size cX0_size 1 (some .int), Cond.methodLink RL 144 yL_tryLife, Cond.static yL_tryLife, Cond.codeWith yL_tryLife cL_tryLife 3 (some .int) [(0, 5, 6, 37)], Cond.methodLink RL 72 yX5_life, Cond.instanceMethod yX5_life, Cond.selects RX5 yX5_life yX5_life]
def wsL_law0_r18 : List Cond := [Cond.code yX5_life cX5_life 2 (some .int), Cond.methodLink RX5 182 yX3_copyFrom, Cond.methodLink RL 147 yL_tryLong, Cond.static yL_tryLong, Cond.codeWith yL_tryLong cL_tryLong 2 (some .int) [(0, 4, 5, 24)], Cond.methodLink RL 75 yX5_lifeOfAll, Cond.instanceMethod yX5_lifeOfAll, Cond.selects RX5 yX5_lifeOfAll yX5_lifeOfAll, Cond.code yX5_lifeOfAll cX5_lifeOfAll 1 (some .int), Cond.methodLink RL 150 yL_tryEvery, Cond.static yL_tryEvery, Cond.codeWith yL_tryEvery cL_tryEvery 5 (some .int) [(0, 7, 8, 37), (0, 7, 13, 13)], Cond.methodLink RL 78 yX5_ifEvery, Cond.instanceMethod yX5_ifEvery, Cond.selects RX5 yX5_ifEvery yX5_ifEvery, Cond.code yX5_ifEvery cX5_ifEvery 4 (some .int), Cond.methodLink RX5 187 yX5_wearIfEvery, Cond.instanceMethod yX5_wearIfEvery, Cond.selects RX5 yX5_wearIfEvery yX5_wearIfEvery, Cond.code yX5_wearIfEvery cX5_wearIfEvery 4 (some .int), Cond.fieldLink RX5 276 "GapLines$State" "every" "I", Cond.methodLink RX5 227 yX3_greatestWear, Cond.methodLink RL 153 yL_tryBest, Cond.static yL_tryBest]
def wsL_law0_r19 : List Cond := [Cond.codeWith yL_tryBest cL_tryBest 4 (some .int) [(0, 6, 7, 37), (0, 6, 11, 13)], Cond.methodLink RL 81 yX5_bestEvery, Cond.instanceMethod yX5_bestEvery, Cond.selects RX5 yX5_bestEvery yX5_bestEvery, Cond.code yX5_bestEvery cX5_bestEvery 7 (some .int), Cond.methodLink RL 156 yL_tryMoves, Cond.static yL_tryMoves, Cond.codeWith yL_tryMoves cL_tryMoves 3 (some .int) [(0, 5, 6, 37)], Cond.methodLink RL 84 yX5_movesTo, Cond.instanceMethod yX5_movesTo, Cond.selects RX5 yX5_movesTo yX5_movesTo, Cond.code yX5_movesTo cX5_movesTo 2 (some .int), Cond.methodLink RX5 191 yX3_movesUntilMoved, Cond.instanceMethod yX3_movesUntilMoved, Cond.selects RX3 yX3_movesUntilMoved yX3_movesUntilMoved, Cond.code yX3_movesUntilMoved cX3_movesUntilMoved 3 (some .int), Cond.methodLink RL 159 yL_tryBehind, Cond.static yL_tryBehind, Cond.codeWith yL_tryBehind cL_tryBehind 4 (some .int) [(0, 6, 7, 37), (0, 6, 11, 13)], Cond.methodLink RL 87 yX5_placeBehind, Cond.instanceMethod yX5_placeBehind, Cond.selects RX5 yX5_placeBehind yX5_placeBehind, Cond.code yX5_placeBehind cX5_placeBehind 3 (some .int), Cond.methodLink RX5 196 yX3_placeAfterMoves]
def wsL_law0_r20 : List Cond := [Cond.instanceMethod yX3_placeAfterMoves, Cond.selects RX3 yX3_placeAfterMoves yX3_placeAfterMoves, Cond.code yX3_placeAfterMoves cX3_placeAfterMoves 7 (some .int), Cond.methodLink RL 162 yL_tryKeep, Cond.static yL_tryKeep, Cond.codeWith yL_tryKeep cL_tryKeep 3 (some .int) [(0, 5, 6, 37)], Cond.methodLink RL 90 yX5_save, Cond.instanceMethod yX5_save, Cond.selects RX5 yX5_save yX5_save, Cond.code yX5_save cX5_save 2 (some .int), Cond.fieldLink RX5 237 "GapLines$State" "writes" "I", Cond.methodLink RX5 230 yX5_requireSlot, Cond.static yX5_requireSlot, Cond.code yX5_requireSlot cX5_requireSlot 1 none, Cond.methodLink RX5 268 yX2_has, Cond.static yX2_has, Cond.code yX2_has cX2_has 1 (some .boolean), Cond.methodLink RX5 233 yX2_keep, Cond.instanceMethod yX2_keep, Cond.selects RX2 yX2_keep yX2_keep, Cond.code yX2_keep cX2_keep 3 none, Cond.methodLink RX2 19 yX2_has, Cond.methodLink RX2 24 yX3_copyFrom, Cond.methodLink RL 165 yL_tryBack]
def wsL_law0_r21 : List Cond := [Cond.static yL_tryBack, Cond.codeWith yL_tryBack cL_tryBack 3 (some .int) [(0, 5, 6, 37), (0, 5, 10, 24)], Cond.methodLink RL 93 yX5_restore, Cond.instanceMethod yX5_restore, Cond.selects RX5 yX5_restore yX5_restore, Cond.code yX5_restore cX5_restore 2 (some .int), Cond.methodLink RX5 240 yX2_bringBack, Cond.instanceMethod yX2_bringBack, Cond.selects RX2 yX2_bringBack yX2_bringBack, Cond.code yX2_bringBack cX2_bringBack 3 (some .boolean), Cond.methodLink RL 190 yL_thrown, Cond.static yL_thrown, Cond.code yL_thrown cL_thrown 1 (some .boolean), Cond.methodLink RL 194 yL_act, Cond.static yL_act, Cond.code yL_act cL_act 4 (some .int), Cond.methodLink RL 180 yL_doSimulate, Cond.static yL_doSimulate, Cond.codeWith yL_doSimulate cL_doSimulate 5 (some .int) [(0, 6, 7, 13)], Cond.methodLink RL 16 yX5_simulate, Cond.instanceMethod yX5_simulate, Cond.selects RX5 yX5_simulate yX5_simulate, Cond.code yX5_simulate cX5_simulate 4 (some .int), Cond.fieldLink RX5 224 "GapLines$State" "moves" "I"]
def wsL_law0_r22 : List Cond := [Cond.methodLink RX5 220 yX3_writeByChance, Cond.instanceMethod yX3_writeByChance, Cond.selects RX3 yX3_writeByChance yX3_writeByChance, Cond.code yX3_writeByChance cX3_writeByChance 9 none, Cond.constantLong RX3 116 (6364136223846793005), Cond.constantLong RX3 118 (1442695040888963407), Cond.methodLink RL 198 yL_refuses, Cond.static yL_refuses, Cond.code yL_refuses cL_refuses 5 (some .boolean), Cond.constantLong RL 178 (1000000), Cond.methodLink RL 174 yL_doScript, Cond.static yL_doScript, Cond.codeWith yL_doScript cL_doScript 5 (some .int) [(0, 6, 7, 13)], Cond.methodLink RL 7 yX5_runScript, Cond.instanceMethod yX5_runScript, Cond.selects RX5 yX5_runScript yX5_runScript, Cond.code yX5_runScript cX5_runScript 6 (some .int), Cond.constantLong RX5 207 (1000000), Cond.methodLink RX5 201 yX5_withoutLastCommands, Cond.static yX5_withoutLastCommands, Cond.code yX5_withoutLastCommands cX5_withoutLastCommands 6 (some .long), Cond.methodLink RX5 209 yX1_succeeds, Cond.static yX1_succeeds, Cond.initialized RX1]
def wsL_law0_r23 : List Cond := [Cond.code yX1_succeeds cX1_succeeds 5 (some .boolean), Cond.constant RX1 7 (100000), Cond.fieldLink RX1 44 "GapLines$State" "dead" "Z", Cond.fieldLink RX1 48 "GapLines$State" "gap" "I", Cond.methodLink RX1 8 yX3_doWrite, Cond.methodLink RX1 14 yX3_doHammer, Cond.methodLink RX1 17 yX3_doAll, Cond.methodLink RX1 21 yX3_doSet, Cond.instanceMethod yX3_doSet, Cond.selects RX3 yX3_doSet yX3_doSet, Cond.code yX3_doSet cX3_doSet 3 (some .boolean), Cond.methodLink RX3 139 yX3_changeSetting, Cond.methodLink RX1 24 yX3_hasLine, Cond.methodLink RX1 27 yX3_valueOf, Cond.methodLink RX1 31 yX3_placeOf, Cond.methodLink RX1 34 yX3_hasPlace, Cond.methodLink RX1 37 yX3_wearOf, Cond.methodLink RX1 40 yX3_exists, Cond.methodLink RL 202 yL_alike, Cond.static yL_alike, Cond.code yL_alike cL_alike 6 (some .boolean), Cond.methodLink RL 206 yL_holds, Cond.static yL_holds, Cond.code yL_holds cL_holds 14 (some .boolean)]
def wsL_law0_r24 : List Cond := [Cond.constant RL 184 (1000000)]
def wsL_law0 : List Cond := (wsL_law0_r1 ++ (wsL_law0_r2 ++ (wsL_law0_r3 ++ (wsL_law0_r4 ++ (wsL_law0_r5 ++ (wsL_law0_r6 ++ (wsL_law0_r7 ++ (wsL_law0_r8 ++ (wsL_law0_r9 ++ (wsL_law0_r10 ++ (wsL_law0_r11 ++ (wsL_law0_r12 ++ (wsL_law0_r13 ++ (wsL_law0_r14 ++ (wsL_law0_r15 ++ (wsL_law0_r16 ++ (wsL_law0_r17 ++ (wsL_law0_r18 ++ (wsL_law0_r19 ++ (wsL_law0_r20 ++ (wsL_law0_r21 ++ (wsL_law0_r22 ++ (wsL_law0_r23 ++ wsL_law0_r24))))))))))))))))))))))) ++ wsX50 ++ wsX40 ++ wsX30 ++ wsX00 ++ wsX20 ++ ([] : List Cond)
def wsL_law : List Cond := wsL_law0 ++ (vx_atS RX5 44 "java/lang/IllegalArgumentException" ["java/lang/RuntimeException", "java/lang/Exception"]).filter goodWord ++ (vx_atS RX5 55 "java/lang/IllegalStateException" ["java/lang/RuntimeException", "java/lang/Exception"]).filter goodWord ++ (vx_atS RX5 253 "java/lang/IndexOutOfBoundsException" ["java/lang/RuntimeException", "java/lang/Exception"]).filter goodWord
set_option maxRecDepth 20000 in
theorem wsL_law_in0_1 : ∀ w ∈ wsL_law0_r1, w ∈ lw_tbl := fun w h => (goodIn_p wsL_law0_r1 [30, 33, 38, 52, 112, 130, 688, 159, 168, 240, 260, 270, 274, 278, 282, 286, 290, 294, 299, 303, 307, 311, 315, 319] (by decide +kernel) (by decide +kernel) w h).1
set_option maxRecDepth 20000 in
theorem wsL_law_in0_2 : ∀ w ∈ wsL_law0_r2, w ∈ lw_tbl := fun w h => (goodIn_p wsL_law0_r2 [322, 325, 330, 334, 337, 341, 345, 349, 353, 357, 361, 364, 368, 372, 376, 379, 383, 387, 394, 399, 403, 406, 410, 413] (by decide +kernel) (by decide +kernel) w h).1
set_option maxRecDepth 20000 in
theorem wsL_law_in0_3 : ∀ w ∈ wsL_law0_r3, w ∈ lw_tbl := fun w h => (goodIn_p wsL_law0_r3 [421, 425, 451, 459, 463, 467, 472, 479, 483, 491, 494, 499, 506, 513, 518, 530, 541, 544, 554, 560, 570, 573, 578, 585] (by decide +kernel) (by decide +kernel) w h).1
set_option maxRecDepth 20000 in
theorem wsL_law_in0_4 : ∀ w ∈ wsL_law0_r4, w ∈ lw_tbl := fun w h => (goodIn_p wsL_law0_r4 [589, 594, 601, 609, 616, 621, 629, 636, 640, 647, 652, 659, 662, 665, 670, 680, 684, 693, 750, 736, 741, 696, 703, 707] (by decide +kernel) (by decide +kernel) w h).1
set_option maxRecDepth 20000 in
theorem wsL_law_in0_5 : ∀ w ∈ wsL_law0_r5, w ∈ lw_tbl := fun w h => (goodIn_p wsL_law0_r5 [712, 720, 753, 746] (by decide +kernel) (by decide +kernel) w h).1
set_option maxRecDepth 20000 in
theorem wsL_law_in0_6 : ∀ w ∈ wsL_law0_r6, w ∈ lw_tbl := fun w h => (goodIn_p wsL_law0_r6 [] (by decide +kernel) (by decide +kernel) w h).1
set_option maxRecDepth 20000 in
theorem wsL_law_in0_7 : ∀ w ∈ wsL_law0_r7, w ∈ lw_tbl := fun w h => (goodIn_p wsL_law0_r7 [] (by decide +kernel) (by decide +kernel) w h).1
set_option maxRecDepth 20000 in
theorem wsL_law_in0_8 : ∀ w ∈ wsL_law0_r8, w ∈ lw_tbl := fun w h => (goodIn_p wsL_law0_r8 [] (by decide +kernel) (by decide +kernel) w h).1
set_option maxRecDepth 20000 in
theorem wsL_law_in0_9 : ∀ w ∈ wsL_law0_r9, w ∈ lw_tbl := fun w h => (goodIn_p wsL_law0_r9 [] (by decide +kernel) (by decide +kernel) w h).1
set_option maxRecDepth 20000 in
theorem wsL_law_in0_10 : ∀ w ∈ wsL_law0_r10, w ∈ lw_tbl := fun w h => (goodIn_p wsL_law0_r10 [] (by decide +kernel) (by decide +kernel) w h).1
set_option maxRecDepth 20000 in
theorem wsL_law_in0_11 : ∀ w ∈ wsL_law0_r11, w ∈ lw_tbl := fun w h => (goodIn_p wsL_law0_r11 [] (by decide +kernel) (by decide +kernel) w h).1
set_option maxRecDepth 20000 in
theorem wsL_law_in0_12 : ∀ w ∈ wsL_law0_r12, w ∈ lw_tbl := fun w h => (goodIn_p wsL_law0_r12 [] (by decide +kernel) (by decide +kernel) w h).1
set_option maxRecDepth 20000 in
theorem wsL_law_in0_13 : ∀ w ∈ wsL_law0_r13, w ∈ lw_tbl := fun w h => (goodIn_p wsL_law0_r13 [] (by decide +kernel) (by decide +kernel) w h).1
set_option maxRecDepth 20000 in
theorem wsL_law_in0_14 : ∀ w ∈ wsL_law0_r14, w ∈ lw_tbl := fun w h => (goodIn_p wsL_law0_r14 [] (by decide +kernel) (by decide +kernel) w h).1
set_option maxRecDepth 20000 in
theorem wsL_law_in0_15 : ∀ w ∈ wsL_law0_r15, w ∈ lw_tbl := fun w h => (goodIn_p wsL_law0_r15 [] (by decide +kernel) (by decide +kernel) w h).1
set_option maxRecDepth 20000 in
theorem wsL_law_in0_16 : ∀ w ∈ wsL_law0_r16, w ∈ lw_tbl := fun w h => (goodIn_p wsL_law0_r16 [] (by decide +kernel) (by decide +kernel) w h).1
set_option maxRecDepth 20000 in
theorem wsL_law_in0_17 : ∀ w ∈ wsL_law0_r17, w ∈ lw_tbl := fun w h => (goodIn_p wsL_law0_r17 [] (by decide +kernel) (by decide +kernel) w h).1
set_option maxRecDepth 20000 in
theorem wsL_law_in0_18 : ∀ w ∈ wsL_law0_r18, w ∈ lw_tbl := fun w h => (goodIn_p wsL_law0_r18 [] (by decide +kernel) (by decide +kernel) w h).1
set_option maxRecDepth 20000 in
theorem wsL_law_in0_19 : ∀ w ∈ wsL_law0_r19, w ∈ lw_tbl := fun w h => (goodIn_p wsL_law0_r19 [] (by decide +kernel) (by decide +kernel) w h).1
set_option maxRecDepth 20000 in
theorem wsL_law_in0_20 : ∀ w ∈ wsL_law0_r20, w ∈ lw_tbl := fun w h => (goodIn_p wsL_law0_r20 [] (by decide +kernel) (by decide +kernel) w h).1
set_option maxRecDepth 20000 in
theorem wsL_law_in0_21 : ∀ w ∈ wsL_law0_r21, w ∈ lw_tbl := fun w h => (goodIn_p wsL_law0_r21 [] (by decide +kernel) (by decide +kernel) w h).1
set_option maxRecDepth 20000 in
theorem wsL_law_in0_22 : ∀ w ∈ wsL_law0_r22, w ∈ lw_tbl := fun w h => (goodIn_p wsL_law0_r22 [] (by decide +kernel) (by decide +kernel) w h).1
set_option maxRecDepth 20000 in
theorem wsL_law_in0_23 : ∀ w ∈ wsL_law0_r23, w ∈ lw_tbl := fun w h => (goodIn_p wsL_law0_r23 [] (by decide +kernel) (by decide +kernel) w h).1
set_option maxRecDepth 20000 in
theorem wsL_law_in0_24 : ∀ w ∈ wsL_law0_r24, w ∈ lw_tbl := fun w h => (goodIn_p wsL_law0_r24 [] (by decide +kernel) (by decide +kernel) w h).1
theorem wsL_law_in0_wsX50 : ∀ w ∈ wsX50, w ∈ lw_tbl := by decide +kernel
theorem wsL_law_in0_wsX40 : ∀ w ∈ wsX40, w ∈ lw_tbl := by decide +kernel
theorem wsL_law_in0_wsX30 : ∀ w ∈ wsX30, w ∈ lw_tbl := by decide +kernel
theorem wsL_law_in0_wsX00 : ∀ w ∈ wsX00, w ∈ lw_tbl := by decide +kernel
theorem wsL_law_in0_wsX20 : ∀ w ∈ wsX20, w ∈ lw_tbl := by decide +kernel
theorem wsL_law_in0 : ∀ w ∈ wsL_law0, w ∈ lw_tbl := (List.forall_mem_append.mpr ⟨(List.forall_mem_append.mpr ⟨(List.forall_mem_append.mpr ⟨(List.forall_mem_append.mpr ⟨(List.forall_mem_append.mpr ⟨(List.forall_mem_append.mpr ⟨(List.forall_mem_append.mpr ⟨wsL_law_in0_1, (List.forall_mem_append.mpr ⟨wsL_law_in0_2, (List.forall_mem_append.mpr ⟨wsL_law_in0_3, (List.forall_mem_append.mpr ⟨wsL_law_in0_4, (List.forall_mem_append.mpr ⟨wsL_law_in0_5, (List.forall_mem_append.mpr ⟨wsL_law_in0_6, (List.forall_mem_append.mpr ⟨wsL_law_in0_7, (List.forall_mem_append.mpr ⟨wsL_law_in0_8, (List.forall_mem_append.mpr ⟨wsL_law_in0_9, (List.forall_mem_append.mpr ⟨wsL_law_in0_10, (List.forall_mem_append.mpr ⟨wsL_law_in0_11, (List.forall_mem_append.mpr ⟨wsL_law_in0_12, (List.forall_mem_append.mpr ⟨wsL_law_in0_13, (List.forall_mem_append.mpr ⟨wsL_law_in0_14, (List.forall_mem_append.mpr ⟨wsL_law_in0_15, (List.forall_mem_append.mpr ⟨wsL_law_in0_16, (List.forall_mem_append.mpr ⟨wsL_law_in0_17, (List.forall_mem_append.mpr ⟨wsL_law_in0_18, (List.forall_mem_append.mpr ⟨wsL_law_in0_19, (List.forall_mem_append.mpr ⟨wsL_law_in0_20, (List.forall_mem_append.mpr ⟨wsL_law_in0_21, (List.forall_mem_append.mpr ⟨wsL_law_in0_22, (List.forall_mem_append.mpr ⟨wsL_law_in0_23, wsL_law_in0_24⟩)⟩)⟩)⟩)⟩)⟩)⟩)⟩)⟩)⟩)⟩)⟩)⟩)⟩)⟩)⟩)⟩)⟩)⟩)⟩)⟩)⟩)⟩), wsL_law_in0_wsX50⟩), wsL_law_in0_wsX40⟩), wsL_law_in0_wsX30⟩), wsL_law_in0_wsX00⟩), wsL_law_in0_wsX20⟩), (fun _ h => absurd h List.not_mem_nil)⟩)
theorem wsL_law_x0 : ∀ w ∈ (vx_atS RX5 44 "java/lang/IllegalArgumentException" ["java/lang/RuntimeException", "java/lang/Exception"]).filter goodWord, w ∈ lw_tbl := by decide +kernel
theorem wsL_law_x1 : ∀ w ∈ (vx_atS RX5 55 "java/lang/IllegalStateException" ["java/lang/RuntimeException", "java/lang/Exception"]).filter goodWord, w ∈ lw_tbl := by decide +kernel
theorem wsL_law_x2 : ∀ w ∈ (vx_atS RX5 253 "java/lang/IndexOutOfBoundsException" ["java/lang/RuntimeException", "java/lang/Exception"]).filter goodWord, w ∈ lw_tbl := by decide +kernel
theorem wsL_law_in : ∀ w ∈ wsL_law, w ∈ lw_tbl := fun w h => (List.mem_append.mp h).elim (fun h => (List.mem_append.mp h).elim (fun h => (List.mem_append.mp h).elim (fun h => wsL_law_in0 w h) (fun h => wsL_law_x0 w h)) (fun h => wsL_law_x1 w h)) (fun h => wsL_law_x2 w h)
theorem inlX0 : ∀ w ∈ wsX00, w ∈ wsL_law := fun _ h => List.mem_append_left _ (List.mem_append_left _ (List.mem_append_left _ (List.mem_append_left _ (List.mem_append_left _ (List.mem_append_right _ h)))))
theorem inX0 : ∀ w ∈ wsX00, w ∈ lw_tbl := fun w h => wsL_law_in w (inlX0 w h)
theorem inX1 : ∀ w ∈ wsX10, w ∈ lw_tbl := by decide +kernel
theorem inlX2 : ∀ w ∈ wsX20, w ∈ wsL_law := fun _ h => List.mem_append_left _ (List.mem_append_left _ (List.mem_append_left _ (List.mem_append_left _ (List.mem_append_right _ h))))
theorem inX2 : ∀ w ∈ wsX20, w ∈ lw_tbl := fun w h => wsL_law_in w (inlX2 w h)
theorem inlX3 : ∀ w ∈ wsX30, w ∈ wsL_law := fun _ h => List.mem_append_left _ (List.mem_append_left _ (List.mem_append_left _ (List.mem_append_left _ (List.mem_append_left _ (List.mem_append_left _ (List.mem_append_right _ h))))))
theorem inX3 : ∀ w ∈ wsX30, w ∈ lw_tbl := fun w h => wsL_law_in w (inlX3 w h)
theorem inlX4 : ∀ w ∈ wsX40, w ∈ wsL_law := fun _ h => List.mem_append_left _ (List.mem_append_left _ (List.mem_append_left _ (List.mem_append_left _ (List.mem_append_left _ (List.mem_append_left _ (List.mem_append_left _ (List.mem_append_right _ h)))))))
theorem inX4 : ∀ w ∈ wsX40, w ∈ lw_tbl := fun w h => wsL_law_in w (inlX4 w h)
theorem inlX5 : ∀ w ∈ wsX50, w ∈ wsL_law := fun _ h => List.mem_append_left _ (List.mem_append_left _ (List.mem_append_left _ (List.mem_append_left _ (List.mem_append_left _ (List.mem_append_left _ (List.mem_append_left _ (List.mem_append_left _ (List.mem_append_right _ h))))))))
theorem inX5 : ∀ w ∈ wsX50, w ∈ lw_tbl := fun w h => wsL_law_in w (inlX5 w h)
theorem inX6 : ∀ w ∈ wsX60, w ∈ lw_tbl := by decide +kernel
theorem inJ9 : ∀ w ∈ wsJ90, w ∈ lw_tbl := by decide +kernel
theorem inJ0 : ∀ w ∈ wsJ00, w ∈ lw_tbl := by decide +kernel
theorem inJ10 : ∀ w ∈ wsJ100, w ∈ lw_tbl := by decide +kernel
abbrev vwCl : List vw_C := [(RX0, TX0, 3), (RX2, TX2, 2), (RX3, TX3, 15), (RX4, TX4, 2), (RX5, TX5, 5)]
end
section
theorem dX0_init_0 : decode cX0_init 0 = .ok (.aload_n 0, 1) := by decide +kernel
theorem dX0_init_1 : decode cX0_init 1 = .ok (.invokespecial 1, 3) := by decide +kernel
theorem dX0_init_4 : decode cX0_init 4 = .ok (.aload_n 0, 1) := by decide +kernel
theorem dX0_init_5 : decode cX0_init 5 = .ok (.bipush 14, 2) := by decide +kernel
theorem dX0_init_7 : decode cX0_init 7 = .ok (.anewarray 9, 3) := by decide +kernel
theorem dX0_init_10 : decode cX0_init 10 = .ok (.putfield 11, 3) := by decide +kernel
theorem dX0_init_13 : decode cX0_init 13 = .ok (.return_, 1) := by decide +kernel
theorem dX0_size_0 : decode cX0_size 0 = .ok (.aload_n 0, 1) := by decide +kernel
theorem dX0_size_1 : decode cX0_size 1 = .ok (.getfield 15, 3) := by decide +kernel
theorem dX0_size_4 : decode cX0_size 4 = .ok (.ireturn, 1) := by decide +kernel
theorem dX0_forgetAll_0 : decode cX0_forgetAll 0 = .ok (.aload_n 0, 1) := by decide +kernel
theorem dX0_forgetAll_1 : decode cX0_forgetAll 1 = .ok (.iconst 0, 1) := by decide +kernel
theorem dX0_forgetAll_2 : decode cX0_forgetAll 2 = .ok (.putfield 15, 3) := by decide +kernel
theorem dX0_forgetAll_5 : decode cX0_forgetAll 5 = .ok (.return_, 1) := by decide +kernel
set_option maxRecDepth 20000 in
theorem ggX0_remember_X3_init : GoodIn wsX0_remember wsX3_init := goodIn_r _ [12, 13, 14, 15, 16, 17, 18, 19, 20, 43, 44, 45, 46, 47, 48, 49, 50, 51, 52, 53, 54, 55, 56, 57] (by decide +kernel) (by decide +kernel)
set_option maxRecDepth 20000 in
theorem gX0_remember_X3_init_n22 : GoodIn wsX0_remember (wsX3_init) := ggX0_remember_X3_init
set_option maxRecDepth 20000 in
theorem ggX0_remember_X3_copyFrom : GoodIn wsX0_remember wsX3_copyFrom := goodIn_r _ [24, 25, 26, 27, 28, 29, 30, 31, 32, 33, 34, 35, 16, 17, 19, 36, 37, 38, 39, 20, 43, 44, 45, 46, 47, 48, 49, 50, 51, 52, 53, 54, 55, 56, 57] (by decide +kernel) (by decide +kernel)
set_option maxRecDepth 20000 in
theorem gX0_remember_X3_copyFrom : GoodIn wsX0_remember (wsV RX0 23 RX3 yX3_copyFrom wsX3_copyFrom) := goodIn_app (goodIn_of _ (by decide +kernel)) ggX0_remember_X3_copyFrom
theorem dX0_remember_0 : decode cX0_remember 0 = .ok (.aload_n 0, 1) := by decide +kernel
theorem dX0_remember_1 : decode cX0_remember 1 = .ok (.getfield 11, 3) := by decide +kernel
theorem dX0_remember_4 : decode cX0_remember 4 = .ok (.aload_n 0, 1) := by decide +kernel
theorem dX0_remember_5 : decode cX0_remember 5 = .ok (.getfield 19, 3) := by decide +kernel
theorem dX0_remember_8 : decode cX0_remember 8 = .ok (.aaload, 1) := by decide +kernel
theorem dX0_remember_9 : decode cX0_remember 9 = .ok (.ifnonnull 19, 3) := by decide +kernel
theorem dX0_remember_12 : decode cX0_remember 12 = .ok (.aload_n 0, 1) := by decide +kernel
theorem dX0_remember_13 : decode cX0_remember 13 = .ok (.getfield 11, 3) := by decide +kernel
theorem dX0_remember_16 : decode cX0_remember 16 = .ok (.aload_n 0, 1) := by decide +kernel
theorem dX0_remember_17 : decode cX0_remember 17 = .ok (.getfield 19, 3) := by decide +kernel
theorem dX0_remember_20 : decode cX0_remember 20 = .ok (.new 9, 3) := by decide +kernel
theorem dX0_remember_23 : decode cX0_remember 23 = .ok (.dup, 1) := by decide +kernel
theorem dX0_remember_24 : decode cX0_remember 24 = .ok (.invokespecial 22, 3) := by decide +kernel
theorem dX0_remember_27 : decode cX0_remember 27 = .ok (.aastore, 1) := by decide +kernel
theorem dX0_remember_28 : decode cX0_remember 28 = .ok (.aload_n 0, 1) := by decide +kernel
theorem dX0_remember_29 : decode cX0_remember 29 = .ok (.getfield 11, 3) := by decide +kernel
theorem dX0_remember_32 : decode cX0_remember 32 = .ok (.aload_n 0, 1) := by decide +kernel
theorem dX0_remember_33 : decode cX0_remember 33 = .ok (.getfield 19, 3) := by decide +kernel
theorem dX0_remember_36 : decode cX0_remember 36 = .ok (.aaload, 1) := by decide +kernel
theorem dX0_remember_37 : decode cX0_remember 37 = .ok (.aload_n 1, 1) := by decide +kernel
theorem dX0_remember_38 : decode cX0_remember 38 = .ok (.invokevirtual 23, 3) := by decide +kernel
theorem dX0_remember_41 : decode cX0_remember 41 = .ok (.aload_n 0, 1) := by decide +kernel
theorem dX0_remember_42 : decode cX0_remember 42 = .ok (.aload_n 0, 1) := by decide +kernel
theorem dX0_remember_43 : decode cX0_remember 43 = .ok (.getfield 19, 3) := by decide +kernel
theorem dX0_remember_46 : decode cX0_remember 46 = .ok (.iconst 1, 1) := by decide +kernel
theorem dX0_remember_47 : decode cX0_remember 47 = .ok (.iadd, 1) := by decide +kernel
theorem dX0_remember_48 : decode cX0_remember 48 = .ok (.bipush 14, 2) := by decide +kernel
theorem dX0_remember_50 : decode cX0_remember 50 = .ok (.if_icmp .ge 12, 3) := by decide +kernel
theorem dX0_remember_53 : decode cX0_remember 53 = .ok (.aload_n 0, 1) := by decide +kernel
theorem dX0_remember_54 : decode cX0_remember 54 = .ok (.getfield 19, 3) := by decide +kernel
theorem dX0_remember_57 : decode cX0_remember 57 = .ok (.iconst 1, 1) := by decide +kernel
theorem dX0_remember_58 : decode cX0_remember 58 = .ok (.iadd, 1) := by decide +kernel
theorem dX0_remember_59 : decode cX0_remember 59 = .ok (.goto 4, 3) := by decide +kernel
theorem dX0_remember_62 : decode cX0_remember 62 = .ok (.iconst 0, 1) := by decide +kernel
theorem dX0_remember_63 : decode cX0_remember 63 = .ok (.putfield 19, 3) := by decide +kernel
theorem dX0_remember_66 : decode cX0_remember 66 = .ok (.aload_n 0, 1) := by decide +kernel
theorem dX0_remember_67 : decode cX0_remember 67 = .ok (.aload_n 0, 1) := by decide +kernel
theorem dX0_remember_68 : decode cX0_remember 68 = .ok (.getfield 15, 3) := by decide +kernel
theorem dX0_remember_71 : decode cX0_remember 71 = .ok (.iconst 1, 1) := by decide +kernel
theorem dX0_remember_72 : decode cX0_remember 72 = .ok (.iadd, 1) := by decide +kernel
theorem dX0_remember_73 : decode cX0_remember 73 = .ok (.bipush 14, 2) := by decide +kernel
theorem dX0_remember_75 : decode cX0_remember 75 = .ok (.invokestatic 27, 3) := by decide +kernel
theorem dX0_remember_78 : decode cX0_remember 78 = .ok (.putfield 15, 3) := by decide +kernel
theorem dX0_remember_81 : decode cX0_remember 81 = .ok (.return_, 1) := by decide +kernel
set_option maxRecDepth 20000 in
theorem ggX0_takeBack_X3_copyFrom : GoodIn wsX0_takeBack wsX3_copyFrom := goodIn_r _ [8, 9, 10, 11, 12, 13, 14, 15, 16, 17, 18, 19, 20, 21, 22, 23, 24, 25, 26, 27, 31, 32, 33, 34, 35, 36, 37, 38, 39, 40, 41, 42, 43, 44, 45] (by decide +kernel) (by decide +kernel)
set_option maxRecDepth 20000 in
theorem gX0_takeBack_X3_copyFrom : GoodIn wsX0_takeBack (wsV RX0 23 RX3 yX3_copyFrom wsX3_copyFrom) := goodIn_app (goodIn_of _ (by decide +kernel)) ggX0_takeBack_X3_copyFrom
theorem dX0_takeBack_0 : decode cX0_takeBack 0 = .ok (.aload_n 0, 1) := by decide +kernel
theorem dX0_takeBack_1 : decode cX0_takeBack 1 = .ok (.getfield 19, 3) := by decide +kernel
theorem dX0_takeBack_4 : decode cX0_takeBack 4 = .ok (.ifCond .le 12, 3) := by decide +kernel
theorem dX0_takeBack_7 : decode cX0_takeBack 7 = .ok (.aload_n 0, 1) := by decide +kernel
theorem dX0_takeBack_8 : decode cX0_takeBack 8 = .ok (.getfield 19, 3) := by decide +kernel
theorem dX0_takeBack_11 : decode cX0_takeBack 11 = .ok (.iconst 1, 1) := by decide +kernel
theorem dX0_takeBack_12 : decode cX0_takeBack 12 = .ok (.isub, 1) := by decide +kernel
theorem dX0_takeBack_13 : decode cX0_takeBack 13 = .ok (.goto 5, 3) := by decide +kernel
theorem dX0_takeBack_16 : decode cX0_takeBack 16 = .ok (.bipush 13, 2) := by decide +kernel
theorem dX0_takeBack_18 : decode cX0_takeBack 18 = .ok (.istore_n 2, 1) := by decide +kernel
theorem dX0_takeBack_19 : decode cX0_takeBack 19 = .ok (.aload_n 0, 1) := by decide +kernel
theorem dX0_takeBack_20 : decode cX0_takeBack 20 = .ok (.getfield 15, 3) := by decide +kernel
theorem dX0_takeBack_23 : decode cX0_takeBack 23 = .ok (.ifCond .eq 12, 3) := by decide +kernel
theorem dX0_takeBack_26 : decode cX0_takeBack 26 = .ok (.aload_n 0, 1) := by decide +kernel
theorem dX0_takeBack_27 : decode cX0_takeBack 27 = .ok (.getfield 11, 3) := by decide +kernel
theorem dX0_takeBack_30 : decode cX0_takeBack 30 = .ok (.iload_n 2, 1) := by decide +kernel
theorem dX0_takeBack_31 : decode cX0_takeBack 31 = .ok (.aaload, 1) := by decide +kernel
theorem dX0_takeBack_32 : decode cX0_takeBack 32 = .ok (.ifnonnull 5, 3) := by decide +kernel
theorem dX0_takeBack_35 : decode cX0_takeBack 35 = .ok (.iconst 0, 1) := by decide +kernel
theorem dX0_takeBack_36 : decode cX0_takeBack 36 = .ok (.ireturn, 1) := by decide +kernel
theorem dX0_takeBack_37 : decode cX0_takeBack 37 = .ok (.aload_n 1, 1) := by decide +kernel
theorem dX0_takeBack_38 : decode cX0_takeBack 38 = .ok (.aload_n 0, 1) := by decide +kernel
theorem dX0_takeBack_39 : decode cX0_takeBack 39 = .ok (.getfield 11, 3) := by decide +kernel
theorem dX0_takeBack_42 : decode cX0_takeBack 42 = .ok (.iload_n 2, 1) := by decide +kernel
theorem dX0_takeBack_43 : decode cX0_takeBack 43 = .ok (.aaload, 1) := by decide +kernel
theorem dX0_takeBack_44 : decode cX0_takeBack 44 = .ok (.invokevirtual 23, 3) := by decide +kernel
theorem dX0_takeBack_47 : decode cX0_takeBack 47 = .ok (.aload_n 0, 1) := by decide +kernel
theorem dX0_takeBack_48 : decode cX0_takeBack 48 = .ok (.iload_n 2, 1) := by decide +kernel
theorem dX0_takeBack_49 : decode cX0_takeBack 49 = .ok (.putfield 19, 3) := by decide +kernel
theorem dX0_takeBack_52 : decode cX0_takeBack 52 = .ok (.aload_n 0, 1) := by decide +kernel
theorem dX0_takeBack_53 : decode cX0_takeBack 53 = .ok (.dup, 1) := by decide +kernel
theorem dX0_takeBack_54 : decode cX0_takeBack 54 = .ok (.getfield 15, 3) := by decide +kernel
theorem dX0_takeBack_57 : decode cX0_takeBack 57 = .ok (.iconst 1, 1) := by decide +kernel
theorem dX0_takeBack_58 : decode cX0_takeBack 58 = .ok (.isub, 1) := by decide +kernel
theorem dX0_takeBack_59 : decode cX0_takeBack 59 = .ok (.putfield 15, 3) := by decide +kernel
theorem dX0_takeBack_62 : decode cX0_takeBack 62 = .ok (.iconst 1, 1) := by decide +kernel
theorem dX0_takeBack_63 : decode cX0_takeBack 63 = .ok (.ireturn, 1) := by decide +kernel
set_option maxRecDepth 20000 in
theorem ggX1_succeeds_X3_doWrite : GoodIn wsX1_succeeds wsX3_doWrite := goodIn_r _ [8, 9, 10, 11, 12, 7, 13, 14, 15, 16, 17, 18, 19, 20, 21, 22, 23, 24, 25, 26, 27, 28, 29, 30, 31, 32, 33, 34, 35, 36, 37, 38, 39, 40, 41, 42, 43, 44, 45, 46, 47, 48, 49, 50, 102, 103, 104, 105, 106, 107, 108, 109, 110, 111, 112, 113, 114, 115, 116] (by decide +kernel) (by decide +kernel)
set_option maxRecDepth 20000 in
theorem gX1_succeeds_X3_doWrite : GoodIn wsX1_succeeds (wsV RX1 8 RX3 yX3_doWrite wsX3_doWrite) := goodIn_app (goodIn_of _ (by decide +kernel)) ggX1_succeeds_X3_doWrite
set_option maxRecDepth 20000 in
theorem ggX1_succeeds_X3_doHammer : GoodIn wsX1_succeeds wsX3_doHammer := goodIn_r _ [54, 10, 11, 12, 7, 13, 14, 55, 16, 56, 57, 58, 59, 60, 9, 61, 62, 63, 64, 22, 18, 19, 20, 21, 23, 24, 25, 26, 27, 28, 29, 30, 31, 32, 33, 34, 35, 36, 37, 38, 39, 40, 41, 42, 43, 44, 45, 46, 47, 48, 49, 50, 102, 103, 104, 105, 106, 107, 108, 109, 110, 111, 112, 113, 114, 115, 116] (by decide +kernel) (by decide +kernel)
set_option maxRecDepth 20000 in
theorem gX1_succeeds_X3_doHammer : GoodIn wsX1_succeeds (wsV RX1 14 RX3 yX3_doHammer wsX3_doHammer) := goodIn_app (goodIn_of _ (by decide +kernel)) ggX1_succeeds_X3_doHammer
set_option maxRecDepth 20000 in
theorem ggX1_succeeds_X3_doAll : GoodIn wsX1_succeeds wsX3_doAll := goodIn_r _ [68, 14, 69, 16, 70, 71, 72, 73, 7, 74, 75, 76, 77, 78, 9, 61, 62, 63, 64, 22, 10, 11, 12, 13, 18, 19, 20, 21, 23, 24, 25, 26, 27, 28, 29, 30, 31, 32, 33, 34, 35, 36, 37, 38, 39, 40, 41, 42, 43, 44, 45, 46, 47, 48, 49, 50, 102, 103, 104, 105, 106, 107, 108, 109, 110, 111, 112, 113, 114, 115, 116] (by decide +kernel) (by decide +kernel)
set_option maxRecDepth 20000 in
theorem gX1_succeeds_X3_doAll : GoodIn wsX1_succeeds (wsV RX1 17 RX3 yX3_doAll wsX3_doAll) := goodIn_app (goodIn_of _ (by decide +kernel)) ggX1_succeeds_X3_doAll
set_option maxRecDepth 20000 in
theorem ggX1_succeeds_X3_doSet : GoodIn wsX1_succeeds wsX3_doSet := goodIn_r _ [82, 83, 16, 84, 85, 86, 87, 7, 88, 43, 25, 102, 103, 104, 105, 106, 107, 108, 109, 110, 111, 112, 113, 114, 115, 116] (by decide +kernel) (by decide +kernel)
set_option maxRecDepth 20000 in
theorem gX1_succeeds_X3_doSet : GoodIn wsX1_succeeds (wsV RX1 21 RX3 yX3_doSet wsX3_doSet) := goodIn_app (goodIn_of _ (by decide +kernel)) ggX1_succeeds_X3_doSet
set_option maxRecDepth 20000 in
theorem ggX1_succeeds_X3_hasLine : GoodIn wsX1_succeeds wsX3_hasLine := goodIn_r _ [13, 14, 102, 103, 104, 105, 106, 107, 108, 109, 110, 111, 112, 113, 114, 115, 116] (by decide +kernel) (by decide +kernel)
set_option maxRecDepth 20000 in
theorem gX1_succeeds_X3_hasLine : GoodIn wsX1_succeeds (wsV RX1 24 RX3 yX3_hasLine wsX3_hasLine) := goodIn_app (goodIn_of _ (by decide +kernel)) ggX1_succeeds_X3_hasLine
set_option maxRecDepth 20000 in
theorem ggX1_succeeds_X3_valueOf : GoodIn wsX1_succeeds wsX3_valueOf := goodIn_r _ [64, 22, 10, 11, 12, 7, 13, 14, 102, 103, 104, 105, 106, 107, 108, 109, 110, 111, 112, 113, 114, 115, 116] (by decide +kernel) (by decide +kernel)
set_option maxRecDepth 20000 in
theorem gX1_succeeds_X3_valueOf : GoodIn wsX1_succeeds (wsV RX1 27 RX3 yX3_valueOf wsX3_valueOf) := goodIn_app (goodIn_of _ (by decide +kernel)) ggX1_succeeds_X3_valueOf
set_option maxRecDepth 20000 in
theorem ggX1_succeeds_X3_placeOf : GoodIn wsX1_succeeds wsX3_placeOf := goodIn_r _ [29, 30, 31, 32, 33, 34, 7, 35, 14, 36, 102, 103, 104, 105, 106, 107, 108, 109, 110, 111, 112, 113, 114, 115, 116] (by decide +kernel) (by decide +kernel)
set_option maxRecDepth 20000 in
theorem gX1_succeeds_X3_placeOf : GoodIn wsX1_succeeds (wsV RX1 31 RX3 yX3_placeOf wsX3_placeOf) := goodIn_app (goodIn_of _ (by decide +kernel)) ggX1_succeeds_X3_placeOf
set_option maxRecDepth 20000 in
theorem ggX1_succeeds_X3_hasPlace : GoodIn wsX1_succeeds wsX3_hasPlace := goodIn_r _ [95, 14, 102, 103, 104, 105, 106, 107, 108, 109, 110, 111, 112, 113, 114, 115, 116] (by decide +kernel) (by decide +kernel)
set_option maxRecDepth 20000 in
theorem gX1_succeeds_X3_hasPlace : GoodIn wsX1_succeeds (wsV RX1 34 RX3 yX3_hasPlace wsX3_hasPlace) := goodIn_app (goodIn_of _ (by decide +kernel)) ggX1_succeeds_X3_hasPlace
set_option maxRecDepth 20000 in
theorem ggX1_succeeds_X3_wearOf : GoodIn wsX1_succeeds wsX3_wearOf := goodIn_r _ [99, 41, 100, 93, 94, 7, 95, 14, 102, 103, 104, 105, 106, 107, 108, 109, 110, 111, 112, 113, 114, 115, 116] (by decide +kernel) (by decide +kernel)
set_option maxRecDepth 20000 in
theorem gX1_succeeds_X3_wearOf : GoodIn wsX1_succeeds (wsV RX1 37 RX3 yX3_wearOf wsX3_wearOf) := goodIn_app (goodIn_of _ (by decide +kernel)) ggX1_succeeds_X3_wearOf
set_option maxRecDepth 20000 in
theorem ggX1_succeeds_X3_exists : GoodIn wsX1_succeeds wsX3_exists := goodIn_r _ [74, 14, 102, 103, 104, 105, 106, 107, 108, 109, 110, 111, 112, 113, 114, 115, 116] (by decide +kernel) (by decide +kernel)
set_option maxRecDepth 20000 in
theorem gX1_succeeds_X3_exists : GoodIn wsX1_succeeds (wsV RX1 40 RX3 yX3_exists wsX3_exists) := goodIn_app (goodIn_of _ (by decide +kernel)) ggX1_succeeds_X3_exists
theorem dX1_succeeds_0 : decode cX1_succeeds 0 = .ok (.iload_n 1, 1) := by decide +kernel
theorem dX1_succeeds_1 : decode cX1_succeeds 1 = .ok (.sipush 1000, 3) := by decide +kernel
theorem dX1_succeeds_4 : decode cX1_succeeds 4 = .ok (.idiv, 1) := by decide +kernel
theorem dX1_succeeds_5 : decode cX1_succeeds 5 = .ok (.bipush 100, 2) := by decide +kernel
theorem dX1_succeeds_7 : decode cX1_succeeds 7 = .ok (.irem, 1) := by decide +kernel
theorem dX1_succeeds_8 : decode cX1_succeeds 8 = .ok (.istore_n 2, 1) := by decide +kernel
theorem dX1_succeeds_9 : decode cX1_succeeds 9 = .ok (.iload_n 1, 1) := by decide +kernel
theorem dX1_succeeds_10 : decode cX1_succeeds 10 = .ok (.sipush 1000, 3) := by decide +kernel
theorem dX1_succeeds_13 : decode cX1_succeeds 13 = .ok (.irem, 1) := by decide +kernel
theorem dX1_succeeds_14 : decode cX1_succeeds 14 = .ok (.istore_n 3, 1) := by decide +kernel
theorem dX1_succeeds_15 : decode cX1_succeeds 15 = .ok (.iload_n 1, 1) := by decide +kernel
theorem dX1_succeeds_16 : decode cX1_succeeds 16 = .ok (.ldc 7, 2) := by decide +kernel
theorem dX1_succeeds_18 : decode cX1_succeeds 18 = .ok (.irem, 1) := by decide +kernel
theorem dX1_succeeds_19 : decode cX1_succeeds 19 = .ok (.istore 4, 2) := by decide +kernel
theorem dX1_succeeds_21 : decode cX1_succeeds 21 = .ok (.iload_n 1, 1) := by decide +kernel
theorem dX1_succeeds_22 : decode cX1_succeeds 22 = .ok (.ldc 7, 2) := by decide +kernel
theorem dX1_succeeds_24 : decode cX1_succeeds 24 = .ok (.idiv, 1) := by decide +kernel
theorem dX1_succeeds_25 : decode cX1_succeeds 25 = .ok (.tableswitch 229 1 9 #[51, 58, 65, 72, 108, 131, 154, 177, 207], 51) := by decide +kernel
theorem dX1_succeeds_76 : decode cX1_succeeds 76 = .ok (.aload_n 0, 1) := by decide +kernel
theorem dX1_succeeds_77 : decode cX1_succeeds 77 = .ok (.iload_n 2, 1) := by decide +kernel
theorem dX1_succeeds_78 : decode cX1_succeeds 78 = .ok (.iload_n 3, 1) := by decide +kernel
theorem dX1_succeeds_79 : decode cX1_succeeds 79 = .ok (.invokevirtual 8, 3) := by decide +kernel
theorem dX1_succeeds_82 : decode cX1_succeeds 82 = .ok (.ireturn, 1) := by decide +kernel
theorem dX1_succeeds_83 : decode cX1_succeeds 83 = .ok (.aload_n 0, 1) := by decide +kernel
theorem dX1_succeeds_84 : decode cX1_succeeds 84 = .ok (.iload_n 2, 1) := by decide +kernel
theorem dX1_succeeds_85 : decode cX1_succeeds 85 = .ok (.iload_n 3, 1) := by decide +kernel
theorem dX1_succeeds_86 : decode cX1_succeeds 86 = .ok (.invokevirtual 14, 3) := by decide +kernel
theorem dX1_succeeds_89 : decode cX1_succeeds 89 = .ok (.ireturn, 1) := by decide +kernel
theorem dX1_succeeds_90 : decode cX1_succeeds 90 = .ok (.aload_n 0, 1) := by decide +kernel
theorem dX1_succeeds_91 : decode cX1_succeeds 91 = .ok (.iload 4, 2) := by decide +kernel
theorem dX1_succeeds_93 : decode cX1_succeeds 93 = .ok (.invokevirtual 17, 3) := by decide +kernel
theorem dX1_succeeds_96 : decode cX1_succeeds 96 = .ok (.ireturn, 1) := by decide +kernel
theorem dX1_succeeds_97 : decode cX1_succeeds 97 = .ok (.iload 4, 2) := by decide +kernel
theorem dX1_succeeds_99 : decode cX1_succeeds 99 = .ok (.bipush 10, 2) := by decide +kernel
theorem dX1_succeeds_101 : decode cX1_succeeds 101 = .ok (.irem, 1) := by decide +kernel
theorem dX1_succeeds_102 : decode cX1_succeeds 102 = .ok (.ifCond .ne 29, 3) := by decide +kernel
theorem dX1_succeeds_105 : decode cX1_succeeds 105 = .ok (.aload_n 0, 1) := by decide +kernel
theorem dX1_succeeds_106 : decode cX1_succeeds 106 = .ok (.iload 4, 2) := by decide +kernel
theorem dX1_succeeds_108 : decode cX1_succeeds 108 = .ok (.sipush 10000, 3) := by decide +kernel
theorem dX1_succeeds_111 : decode cX1_succeeds 111 = .ok (.idiv, 1) := by decide +kernel
theorem dX1_succeeds_112 : decode cX1_succeeds 112 = .ok (.iload 4, 2) := by decide +kernel
theorem dX1_succeeds_114 : decode cX1_succeeds 114 = .ok (.bipush 10, 2) := by decide +kernel
theorem dX1_succeeds_116 : decode cX1_succeeds 116 = .ok (.idiv, 1) := by decide +kernel
theorem dX1_succeeds_117 : decode cX1_succeeds 117 = .ok (.sipush 1000, 3) := by decide +kernel
theorem dX1_succeeds_120 : decode cX1_succeeds 120 = .ok (.irem, 1) := by decide +kernel
theorem dX1_succeeds_121 : decode cX1_succeeds 121 = .ok (.invokevirtual 21, 3) := by decide +kernel
theorem dX1_succeeds_124 : decode cX1_succeeds 124 = .ok (.ifCond .eq 7, 3) := by decide +kernel
theorem dX1_succeeds_127 : decode cX1_succeeds 127 = .ok (.iconst 1, 1) := by decide +kernel
theorem dX1_succeeds_128 : decode cX1_succeeds 128 = .ok (.goto 4, 3) := by decide +kernel
theorem dX1_succeeds_131 : decode cX1_succeeds 131 = .ok (.iconst 0, 1) := by decide +kernel
theorem dX1_succeeds_132 : decode cX1_succeeds 132 = .ok (.ireturn, 1) := by decide +kernel
theorem dX1_succeeds_133 : decode cX1_succeeds 133 = .ok (.aload_n 0, 1) := by decide +kernel
theorem dX1_succeeds_134 : decode cX1_succeeds 134 = .ok (.iload_n 2, 1) := by decide +kernel
theorem dX1_succeeds_135 : decode cX1_succeeds 135 = .ok (.invokevirtual 24, 3) := by decide +kernel
theorem dX1_succeeds_138 : decode cX1_succeeds 138 = .ok (.ifCond .eq 16, 3) := by decide +kernel
theorem dX1_succeeds_141 : decode cX1_succeeds 141 = .ok (.aload_n 0, 1) := by decide +kernel
theorem dX1_succeeds_142 : decode cX1_succeeds 142 = .ok (.iload_n 2, 1) := by decide +kernel
theorem dX1_succeeds_143 : decode cX1_succeeds 143 = .ok (.invokevirtual 27, 3) := by decide +kernel
theorem dX1_succeeds_146 : decode cX1_succeeds 146 = .ok (.iload_n 3, 1) := by decide +kernel
theorem dX1_succeeds_147 : decode cX1_succeeds 147 = .ok (.if_icmp .ne 7, 3) := by decide +kernel
theorem dX1_succeeds_150 : decode cX1_succeeds 150 = .ok (.iconst 1, 1) := by decide +kernel
theorem dX1_succeeds_151 : decode cX1_succeeds 151 = .ok (.goto 4, 3) := by decide +kernel
theorem dX1_succeeds_154 : decode cX1_succeeds 154 = .ok (.iconst 0, 1) := by decide +kernel
theorem dX1_succeeds_155 : decode cX1_succeeds 155 = .ok (.ireturn, 1) := by decide +kernel
theorem dX1_succeeds_156 : decode cX1_succeeds 156 = .ok (.aload_n 0, 1) := by decide +kernel
theorem dX1_succeeds_157 : decode cX1_succeeds 157 = .ok (.iload_n 2, 1) := by decide +kernel
theorem dX1_succeeds_158 : decode cX1_succeeds 158 = .ok (.invokevirtual 24, 3) := by decide +kernel
theorem dX1_succeeds_161 : decode cX1_succeeds 161 = .ok (.ifCond .eq 16, 3) := by decide +kernel
theorem dX1_succeeds_164 : decode cX1_succeeds 164 = .ok (.aload_n 0, 1) := by decide +kernel
theorem dX1_succeeds_165 : decode cX1_succeeds 165 = .ok (.iload_n 2, 1) := by decide +kernel
theorem dX1_succeeds_166 : decode cX1_succeeds 166 = .ok (.invokevirtual 31, 3) := by decide +kernel
theorem dX1_succeeds_169 : decode cX1_succeeds 169 = .ok (.iload_n 3, 1) := by decide +kernel
theorem dX1_succeeds_170 : decode cX1_succeeds 170 = .ok (.if_icmp .ne 7, 3) := by decide +kernel
theorem dX1_succeeds_173 : decode cX1_succeeds 173 = .ok (.iconst 1, 1) := by decide +kernel
theorem dX1_succeeds_174 : decode cX1_succeeds 174 = .ok (.goto 4, 3) := by decide +kernel
theorem dX1_succeeds_177 : decode cX1_succeeds 177 = .ok (.iconst 0, 1) := by decide +kernel
theorem dX1_succeeds_178 : decode cX1_succeeds 178 = .ok (.ireturn, 1) := by decide +kernel
theorem dX1_succeeds_179 : decode cX1_succeeds 179 = .ok (.aload_n 0, 1) := by decide +kernel
theorem dX1_succeeds_180 : decode cX1_succeeds 180 = .ok (.iload_n 2, 1) := by decide +kernel
theorem dX1_succeeds_181 : decode cX1_succeeds 181 = .ok (.invokevirtual 34, 3) := by decide +kernel
theorem dX1_succeeds_184 : decode cX1_succeeds 184 = .ok (.ifCond .eq 16, 3) := by decide +kernel
theorem dX1_succeeds_187 : decode cX1_succeeds 187 = .ok (.aload_n 0, 1) := by decide +kernel
theorem dX1_succeeds_188 : decode cX1_succeeds 188 = .ok (.iload_n 2, 1) := by decide +kernel
theorem dX1_succeeds_189 : decode cX1_succeeds 189 = .ok (.invokevirtual 37, 3) := by decide +kernel
theorem dX1_succeeds_192 : decode cX1_succeeds 192 = .ok (.iload_n 3, 1) := by decide +kernel
theorem dX1_succeeds_193 : decode cX1_succeeds 193 = .ok (.if_icmp .gt 7, 3) := by decide +kernel
theorem dX1_succeeds_196 : decode cX1_succeeds 196 = .ok (.iconst 1, 1) := by decide +kernel
theorem dX1_succeeds_197 : decode cX1_succeeds 197 = .ok (.goto 4, 3) := by decide +kernel
theorem dX1_succeeds_200 : decode cX1_succeeds 200 = .ok (.iconst 0, 1) := by decide +kernel
theorem dX1_succeeds_201 : decode cX1_succeeds 201 = .ok (.ireturn, 1) := by decide +kernel
theorem dX1_succeeds_202 : decode cX1_succeeds 202 = .ok (.aload_n 0, 1) := by decide +kernel
theorem dX1_succeeds_203 : decode cX1_succeeds 203 = .ok (.invokevirtual 40, 3) := by decide +kernel
theorem dX1_succeeds_206 : decode cX1_succeeds 206 = .ok (.ifCond .eq 24, 3) := by decide +kernel
theorem dX1_succeeds_209 : decode cX1_succeeds 209 = .ok (.iload 4, 2) := by decide +kernel
theorem dX1_succeeds_211 : decode cX1_succeeds 211 = .ok (.aload_n 0, 1) := by decide +kernel
theorem dX1_succeeds_212 : decode cX1_succeeds 212 = .ok (.getfield 44, 3) := by decide +kernel
theorem dX1_succeeds_215 : decode cX1_succeeds 215 = .ok (.ifCond .eq 7, 3) := by decide +kernel
theorem dX1_succeeds_218 : decode cX1_succeeds 218 = .ok (.iconst 1, 1) := by decide +kernel
theorem dX1_succeeds_219 : decode cX1_succeeds 219 = .ok (.goto 4, 3) := by decide +kernel
theorem dX1_succeeds_222 : decode cX1_succeeds 222 = .ok (.iconst 0, 1) := by decide +kernel
theorem dX1_succeeds_223 : decode cX1_succeeds 223 = .ok (.if_icmp .ne 7, 3) := by decide +kernel
theorem dX1_succeeds_226 : decode cX1_succeeds 226 = .ok (.iconst 1, 1) := by decide +kernel
theorem dX1_succeeds_227 : decode cX1_succeeds 227 = .ok (.goto 4, 3) := by decide +kernel
theorem dX1_succeeds_230 : decode cX1_succeeds 230 = .ok (.iconst 0, 1) := by decide +kernel
theorem dX1_succeeds_231 : decode cX1_succeeds 231 = .ok (.ireturn, 1) := by decide +kernel
theorem dX1_succeeds_232 : decode cX1_succeeds 232 = .ok (.aload_n 0, 1) := by decide +kernel
theorem dX1_succeeds_233 : decode cX1_succeeds 233 = .ok (.invokevirtual 40, 3) := by decide +kernel
theorem dX1_succeeds_236 : decode cX1_succeeds 236 = .ok (.ifCond .eq 16, 3) := by decide +kernel
theorem dX1_succeeds_239 : decode cX1_succeeds 239 = .ok (.iload 4, 2) := by decide +kernel
theorem dX1_succeeds_241 : decode cX1_succeeds 241 = .ok (.aload_n 0, 1) := by decide +kernel
theorem dX1_succeeds_242 : decode cX1_succeeds 242 = .ok (.getfield 48, 3) := by decide +kernel
theorem dX1_succeeds_245 : decode cX1_succeeds 245 = .ok (.if_icmp .ne 7, 3) := by decide +kernel
theorem dX1_succeeds_248 : decode cX1_succeeds 248 = .ok (.iconst 1, 1) := by decide +kernel
theorem dX1_succeeds_249 : decode cX1_succeeds 249 = .ok (.goto 4, 3) := by decide +kernel
theorem dX1_succeeds_252 : decode cX1_succeeds 252 = .ok (.iconst 0, 1) := by decide +kernel
theorem dX1_succeeds_253 : decode cX1_succeeds 253 = .ok (.ireturn, 1) := by decide +kernel
theorem dX1_succeeds_254 : decode cX1_succeeds 254 = .ok (.iconst 0, 1) := by decide +kernel
theorem dX1_succeeds_255 : decode cX1_succeeds 255 = .ok (.ireturn, 1) := by decide +kernel
theorem dX2_init_0 : decode cX2_init 0 = .ok (.aload_n 0, 1) := by decide +kernel
theorem dX2_init_1 : decode cX2_init 1 = .ok (.invokespecial 1, 3) := by decide +kernel
theorem dX2_init_4 : decode cX2_init 4 = .ok (.aload_n 0, 1) := by decide +kernel
theorem dX2_init_5 : decode cX2_init 5 = .ok (.iconst 2, 1) := by decide +kernel
theorem dX2_init_6 : decode cX2_init 6 = .ok (.anewarray 9, 3) := by decide +kernel
theorem dX2_init_9 : decode cX2_init 9 = .ok (.putfield 11, 3) := by decide +kernel
theorem dX2_init_12 : decode cX2_init 12 = .ok (.aload_n 0, 1) := by decide +kernel
theorem dX2_init_13 : decode cX2_init 13 = .ok (.iconst 2, 1) := by decide +kernel
theorem dX2_init_14 : decode cX2_init 14 = .ok (.newarray .boolean, 2) := by decide +kernel
theorem dX2_init_16 : decode cX2_init 16 = .ok (.putfield 15, 3) := by decide +kernel
theorem dX2_init_19 : decode cX2_init 19 = .ok (.return_, 1) := by decide +kernel
theorem dX2_has_0 : decode cX2_has 0 = .ok (.iload_n 0, 1) := by decide +kernel
theorem dX2_has_1 : decode cX2_has 1 = .ok (.ifCond .lt 12, 3) := by decide +kernel
theorem dX2_has_4 : decode cX2_has 4 = .ok (.iload_n 0, 1) := by decide +kernel
theorem dX2_has_5 : decode cX2_has 5 = .ok (.iconst 2, 1) := by decide +kernel
theorem dX2_has_6 : decode cX2_has 6 = .ok (.if_icmp .ge 7, 3) := by decide +kernel
theorem dX2_has_9 : decode cX2_has 9 = .ok (.iconst 1, 1) := by decide +kernel
theorem dX2_has_10 : decode cX2_has 10 = .ok (.goto 4, 3) := by decide +kernel
theorem dX2_has_13 : decode cX2_has 13 = .ok (.iconst 0, 1) := by decide +kernel
theorem dX2_has_14 : decode cX2_has 14 = .ok (.ireturn, 1) := by decide +kernel
theorem dX2_forgetAll_0 : decode cX2_forgetAll 0 = .ok (.iconst 0, 1) := by decide +kernel
theorem dX2_forgetAll_1 : decode cX2_forgetAll 1 = .ok (.istore_n 1, 1) := by decide +kernel
theorem dX2_forgetAll_2 : decode cX2_forgetAll 2 = .ok (.iload_n 1, 1) := by decide +kernel
theorem dX2_forgetAll_3 : decode cX2_forgetAll 3 = .ok (.iconst 2, 1) := by decide +kernel
theorem dX2_forgetAll_4 : decode cX2_forgetAll 4 = .ok (.if_icmp .ge 16, 3) := by decide +kernel
theorem dX2_forgetAll_7 : decode cX2_forgetAll 7 = .ok (.aload_n 0, 1) := by decide +kernel
theorem dX2_forgetAll_8 : decode cX2_forgetAll 8 = .ok (.getfield 15, 3) := by decide +kernel
theorem dX2_forgetAll_11 : decode cX2_forgetAll 11 = .ok (.iload_n 1, 1) := by decide +kernel
theorem dX2_forgetAll_12 : decode cX2_forgetAll 12 = .ok (.iconst 0, 1) := by decide +kernel
theorem dX2_forgetAll_13 : decode cX2_forgetAll 13 = .ok (.bastore, 1) := by decide +kernel
theorem dX2_forgetAll_14 : decode cX2_forgetAll 14 = .ok (.iinc 1 1, 3) := by decide +kernel
theorem dX2_forgetAll_17 : decode cX2_forgetAll 17 = .ok (.goto (-15), 3) := by decide +kernel
theorem dX2_forgetAll_20 : decode cX2_forgetAll 20 = .ok (.return_, 1) := by decide +kernel
set_option maxRecDepth 20000 in
theorem ggX2_keep_X2_has : GoodIn wsX2_keep wsX2_has := goodIn_r _ [9] (by decide +kernel) (by decide +kernel)
set_option maxRecDepth 20000 in
theorem gX2_keep_X2_has : GoodIn wsX2_keep (va_wsS RX2 19 yX2_has wsX2_has) := goodIn_app (goodIn_of _ (by decide +kernel)) ggX2_keep_X2_has
set_option maxRecDepth 20000 in
theorem ggX2_keep_X3_init : GoodIn wsX2_keep wsX3_init := goodIn_r _ [11, 12, 13, 14, 15, 16, 17, 18, 19, 41, 42, 43, 44, 45, 46, 47, 48, 49, 50, 51, 52, 53, 54, 55] (by decide +kernel) (by decide +kernel)
set_option maxRecDepth 20000 in
theorem gX2_keep_X3_init_n23 : GoodIn wsX2_keep (wsX3_init) := ggX2_keep_X3_init
set_option maxRecDepth 20000 in
theorem ggX2_keep_X3_copyFrom : GoodIn wsX2_keep wsX3_copyFrom := goodIn_r _ [23, 24, 25, 26, 27, 28, 29, 30, 31, 32, 33, 34, 15, 16, 18, 35, 36, 37, 38, 19, 41, 42, 43, 44, 45, 46, 47, 48, 49, 50, 51, 52, 53, 54, 55] (by decide +kernel) (by decide +kernel)
set_option maxRecDepth 20000 in
theorem gX2_keep_X3_copyFrom : GoodIn wsX2_keep (wsV RX2 24 RX3 yX3_copyFrom wsX3_copyFrom) := goodIn_app (goodIn_of _ (by decide +kernel)) ggX2_keep_X3_copyFrom
theorem dX2_keep_0 : decode cX2_keep 0 = .ok (.iload_n 1, 1) := by decide +kernel
theorem dX2_keep_1 : decode cX2_keep 1 = .ok (.invokestatic 19, 3) := by decide +kernel
theorem dX2_keep_4 : decode cX2_keep 4 = .ok (.ifCond .ne 4, 3) := by decide +kernel
theorem dX2_keep_7 : decode cX2_keep 7 = .ok (.return_, 1) := by decide +kernel
theorem dX2_keep_8 : decode cX2_keep 8 = .ok (.aload_n 0, 1) := by decide +kernel
theorem dX2_keep_9 : decode cX2_keep 9 = .ok (.getfield 11, 3) := by decide +kernel
theorem dX2_keep_12 : decode cX2_keep 12 = .ok (.iload_n 1, 1) := by decide +kernel
theorem dX2_keep_13 : decode cX2_keep 13 = .ok (.aaload, 1) := by decide +kernel
theorem dX2_keep_14 : decode cX2_keep 14 = .ok (.ifnonnull 16, 3) := by decide +kernel
theorem dX2_keep_17 : decode cX2_keep 17 = .ok (.aload_n 0, 1) := by decide +kernel
theorem dX2_keep_18 : decode cX2_keep 18 = .ok (.getfield 11, 3) := by decide +kernel
theorem dX2_keep_21 : decode cX2_keep 21 = .ok (.iload_n 1, 1) := by decide +kernel
theorem dX2_keep_22 : decode cX2_keep 22 = .ok (.new 9, 3) := by decide +kernel
theorem dX2_keep_25 : decode cX2_keep 25 = .ok (.dup, 1) := by decide +kernel
theorem dX2_keep_26 : decode cX2_keep 26 = .ok (.invokespecial 23, 3) := by decide +kernel
theorem dX2_keep_29 : decode cX2_keep 29 = .ok (.aastore, 1) := by decide +kernel
theorem dX2_keep_30 : decode cX2_keep 30 = .ok (.aload_n 0, 1) := by decide +kernel
theorem dX2_keep_31 : decode cX2_keep 31 = .ok (.getfield 11, 3) := by decide +kernel
theorem dX2_keep_34 : decode cX2_keep 34 = .ok (.iload_n 1, 1) := by decide +kernel
theorem dX2_keep_35 : decode cX2_keep 35 = .ok (.aaload, 1) := by decide +kernel
theorem dX2_keep_36 : decode cX2_keep 36 = .ok (.aload_n 2, 1) := by decide +kernel
theorem dX2_keep_37 : decode cX2_keep 37 = .ok (.invokevirtual 24, 3) := by decide +kernel
theorem dX2_keep_40 : decode cX2_keep 40 = .ok (.aload_n 0, 1) := by decide +kernel
theorem dX2_keep_41 : decode cX2_keep 41 = .ok (.getfield 15, 3) := by decide +kernel
theorem dX2_keep_44 : decode cX2_keep 44 = .ok (.iload_n 1, 1) := by decide +kernel
theorem dX2_keep_45 : decode cX2_keep 45 = .ok (.iconst 1, 1) := by decide +kernel
theorem dX2_keep_46 : decode cX2_keep 46 = .ok (.bastore, 1) := by decide +kernel
theorem dX2_keep_47 : decode cX2_keep 47 = .ok (.return_, 1) := by decide +kernel
set_option maxRecDepth 20000 in
theorem ggX2_bringBack_X2_has : GoodIn wsX2_bringBack wsX2_has := goodIn_r _ [6] (by decide +kernel) (by decide +kernel)
set_option maxRecDepth 20000 in
theorem gX2_bringBack_X2_has : GoodIn wsX2_bringBack (va_wsS RX2 19 yX2_has wsX2_has) := goodIn_app (goodIn_of _ (by decide +kernel)) ggX2_bringBack_X2_has
set_option maxRecDepth 20000 in
theorem ggX2_bringBack_X3_copyFrom : GoodIn wsX2_bringBack wsX3_copyFrom := goodIn_r _ [11, 12, 13, 14, 15, 16, 17, 18, 19, 20, 21, 22, 23, 24, 25, 26, 27, 28, 29, 30, 33, 34, 35, 36, 37, 38, 39, 40, 41, 42, 43, 44, 45, 46, 47] (by decide +kernel) (by decide +kernel)
set_option maxRecDepth 20000 in
theorem gX2_bringBack_X3_copyFrom : GoodIn wsX2_bringBack (wsV RX2 24 RX3 yX3_copyFrom wsX3_copyFrom) := goodIn_app (goodIn_of _ (by decide +kernel)) ggX2_bringBack_X3_copyFrom
theorem dX2_bringBack_0 : decode cX2_bringBack 0 = .ok (.iload_n 1, 1) := by decide +kernel
theorem dX2_bringBack_1 : decode cX2_bringBack 1 = .ok (.invokestatic 19, 3) := by decide +kernel
theorem dX2_bringBack_4 : decode cX2_bringBack 4 = .ok (.ifCond .eq 21, 3) := by decide +kernel
theorem dX2_bringBack_7 : decode cX2_bringBack 7 = .ok (.aload_n 0, 1) := by decide +kernel
theorem dX2_bringBack_8 : decode cX2_bringBack 8 = .ok (.getfield 15, 3) := by decide +kernel
theorem dX2_bringBack_11 : decode cX2_bringBack 11 = .ok (.iload_n 1, 1) := by decide +kernel
theorem dX2_bringBack_12 : decode cX2_bringBack 12 = .ok (.baload, 1) := by decide +kernel
theorem dX2_bringBack_13 : decode cX2_bringBack 13 = .ok (.ifCond .eq 12, 3) := by decide +kernel
theorem dX2_bringBack_16 : decode cX2_bringBack 16 = .ok (.aload_n 0, 1) := by decide +kernel
theorem dX2_bringBack_17 : decode cX2_bringBack 17 = .ok (.getfield 11, 3) := by decide +kernel
theorem dX2_bringBack_20 : decode cX2_bringBack 20 = .ok (.iload_n 1, 1) := by decide +kernel
theorem dX2_bringBack_21 : decode cX2_bringBack 21 = .ok (.aaload, 1) := by decide +kernel
theorem dX2_bringBack_22 : decode cX2_bringBack 22 = .ok (.ifnonnull 5, 3) := by decide +kernel
theorem dX2_bringBack_25 : decode cX2_bringBack 25 = .ok (.iconst 0, 1) := by decide +kernel
theorem dX2_bringBack_26 : decode cX2_bringBack 26 = .ok (.ireturn, 1) := by decide +kernel
theorem dX2_bringBack_27 : decode cX2_bringBack 27 = .ok (.aload_n 2, 1) := by decide +kernel
theorem dX2_bringBack_28 : decode cX2_bringBack 28 = .ok (.aload_n 0, 1) := by decide +kernel
theorem dX2_bringBack_29 : decode cX2_bringBack 29 = .ok (.getfield 11, 3) := by decide +kernel
theorem dX2_bringBack_32 : decode cX2_bringBack 32 = .ok (.iload_n 1, 1) := by decide +kernel
theorem dX2_bringBack_33 : decode cX2_bringBack 33 = .ok (.aaload, 1) := by decide +kernel
theorem dX2_bringBack_34 : decode cX2_bringBack 34 = .ok (.invokevirtual 24, 3) := by decide +kernel
theorem dX2_bringBack_37 : decode cX2_bringBack 37 = .ok (.iconst 1, 1) := by decide +kernel
theorem dX2_bringBack_38 : decode cX2_bringBack 38 = .ok (.ireturn, 1) := by decide +kernel
theorem dX3_init_0 : decode cX3_init 0 = .ok (.aload_n 0, 1) := by decide +kernel
theorem dX3_init_1 : decode cX3_init 1 = .ok (.invokespecial 3, 3) := by decide +kernel
theorem dX3_init_4 : decode cX3_init 4 = .ok (.aload_n 0, 1) := by decide +kernel
theorem dX3_init_5 : decode cX3_init 5 = .ok (.bipush 100, 2) := by decide +kernel
theorem dX3_init_7 : decode cX3_init 7 = .ok (.putfield 9, 3) := by decide +kernel
theorem dX3_init_10 : decode cX3_init 10 = .ok (.aload_n 0, 1) := by decide +kernel
theorem dX3_init_11 : decode cX3_init 11 = .ok (.bipush 8, 2) := by decide +kernel
theorem dX3_init_13 : decode cX3_init 13 = .ok (.putfield 15, 3) := by decide +kernel
theorem dX3_init_16 : decode cX3_init 16 = .ok (.aload_n 0, 1) := by decide +kernel
theorem dX3_init_17 : decode cX3_init 17 = .ok (.bipush 32, 2) := by decide +kernel
theorem dX3_init_19 : decode cX3_init 19 = .ok (.newarray .int, 2) := by decide +kernel
theorem dX3_init_21 : decode cX3_init 21 = .ok (.putfield 18, 3) := by decide +kernel
theorem dX3_init_24 : decode cX3_init 24 = .ok (.aload_n 0, 1) := by decide +kernel
theorem dX3_init_25 : decode cX3_init 25 = .ok (.bipush 33, 2) := by decide +kernel
theorem dX3_init_27 : decode cX3_init 27 = .ok (.newarray .int, 2) := by decide +kernel
theorem dX3_init_29 : decode cX3_init 29 = .ok (.putfield 22, 3) := by decide +kernel
theorem dX3_init_32 : decode cX3_init 32 = .ok (.return_, 1) := by decide +kernel
theorem dX3_copyFrom_0 : decode cX3_copyFrom 0 = .ok (.aload_n 0, 1) := by decide +kernel
theorem dX3_copyFrom_1 : decode cX3_copyFrom 1 = .ok (.aload_n 1, 1) := by decide +kernel
theorem dX3_copyFrom_2 : decode cX3_copyFrom 2 = .ok (.getfield 25, 3) := by decide +kernel
theorem dX3_copyFrom_5 : decode cX3_copyFrom 5 = .ok (.putfield 25, 3) := by decide +kernel
theorem dX3_copyFrom_8 : decode cX3_copyFrom 8 = .ok (.aload_n 0, 1) := by decide +kernel
theorem dX3_copyFrom_9 : decode cX3_copyFrom 9 = .ok (.aload_n 1, 1) := by decide +kernel
theorem dX3_copyFrom_10 : decode cX3_copyFrom 10 = .ok (.getfield 28, 3) := by decide +kernel
theorem dX3_copyFrom_13 : decode cX3_copyFrom 13 = .ok (.putfield 28, 3) := by decide +kernel
theorem dX3_copyFrom_16 : decode cX3_copyFrom 16 = .ok (.aload_n 0, 1) := by decide +kernel
theorem dX3_copyFrom_17 : decode cX3_copyFrom 17 = .ok (.aload_n 1, 1) := by decide +kernel
theorem dX3_copyFrom_18 : decode cX3_copyFrom 18 = .ok (.getfield 31, 3) := by decide +kernel
theorem dX3_copyFrom_21 : decode cX3_copyFrom 21 = .ok (.putfield 31, 3) := by decide +kernel
theorem dX3_copyFrom_24 : decode cX3_copyFrom 24 = .ok (.aload_n 0, 1) := by decide +kernel
theorem dX3_copyFrom_25 : decode cX3_copyFrom 25 = .ok (.aload_n 1, 1) := by decide +kernel
theorem dX3_copyFrom_26 : decode cX3_copyFrom 26 = .ok (.getfield 34, 3) := by decide +kernel
theorem dX3_copyFrom_29 : decode cX3_copyFrom 29 = .ok (.putfield 34, 3) := by decide +kernel
theorem dX3_copyFrom_32 : decode cX3_copyFrom 32 = .ok (.aload_n 0, 1) := by decide +kernel
theorem dX3_copyFrom_33 : decode cX3_copyFrom 33 = .ok (.aload_n 1, 1) := by decide +kernel
theorem dX3_copyFrom_34 : decode cX3_copyFrom 34 = .ok (.getfield 37, 3) := by decide +kernel
theorem dX3_copyFrom_37 : decode cX3_copyFrom 37 = .ok (.putfield 37, 3) := by decide +kernel
theorem dX3_copyFrom_40 : decode cX3_copyFrom 40 = .ok (.aload_n 0, 1) := by decide +kernel
theorem dX3_copyFrom_41 : decode cX3_copyFrom 41 = .ok (.aload_n 1, 1) := by decide +kernel
theorem dX3_copyFrom_42 : decode cX3_copyFrom 42 = .ok (.getfield 40, 3) := by decide +kernel
theorem dX3_copyFrom_45 : decode cX3_copyFrom 45 = .ok (.putfield 40, 3) := by decide +kernel
theorem dX3_copyFrom_48 : decode cX3_copyFrom 48 = .ok (.aload_n 0, 1) := by decide +kernel
theorem dX3_copyFrom_49 : decode cX3_copyFrom 49 = .ok (.aload_n 1, 1) := by decide +kernel
theorem dX3_copyFrom_50 : decode cX3_copyFrom 50 = .ok (.getfield 43, 3) := by decide +kernel
theorem dX3_copyFrom_53 : decode cX3_copyFrom 53 = .ok (.putfield 43, 3) := by decide +kernel
theorem dX3_copyFrom_56 : decode cX3_copyFrom 56 = .ok (.aload_n 0, 1) := by decide +kernel
theorem dX3_copyFrom_57 : decode cX3_copyFrom 57 = .ok (.aload_n 1, 1) := by decide +kernel
theorem dX3_copyFrom_58 : decode cX3_copyFrom 58 = .ok (.getfield 46, 3) := by decide +kernel
theorem dX3_copyFrom_61 : decode cX3_copyFrom 61 = .ok (.putfield 46, 3) := by decide +kernel
theorem dX3_copyFrom_64 : decode cX3_copyFrom 64 = .ok (.aload_n 0, 1) := by decide +kernel
theorem dX3_copyFrom_65 : decode cX3_copyFrom 65 = .ok (.aload_n 1, 1) := by decide +kernel
theorem dX3_copyFrom_66 : decode cX3_copyFrom 66 = .ok (.getfield 49, 3) := by decide +kernel
theorem dX3_copyFrom_69 : decode cX3_copyFrom 69 = .ok (.putfield 49, 3) := by decide +kernel
theorem dX3_copyFrom_72 : decode cX3_copyFrom 72 = .ok (.aload_n 0, 1) := by decide +kernel
theorem dX3_copyFrom_73 : decode cX3_copyFrom 73 = .ok (.aload_n 1, 1) := by decide +kernel
theorem dX3_copyFrom_74 : decode cX3_copyFrom 74 = .ok (.getfield 52, 3) := by decide +kernel
theorem dX3_copyFrom_77 : decode cX3_copyFrom 77 = .ok (.putfield 52, 3) := by decide +kernel
theorem dX3_copyFrom_80 : decode cX3_copyFrom 80 = .ok (.aload_n 0, 1) := by decide +kernel
theorem dX3_copyFrom_81 : decode cX3_copyFrom 81 = .ok (.aload_n 1, 1) := by decide +kernel
theorem dX3_copyFrom_82 : decode cX3_copyFrom 82 = .ok (.getfield 55, 3) := by decide +kernel
theorem dX3_copyFrom_85 : decode cX3_copyFrom 85 = .ok (.putfield 55, 3) := by decide +kernel
theorem dX3_copyFrom_88 : decode cX3_copyFrom 88 = .ok (.aload_n 0, 1) := by decide +kernel
theorem dX3_copyFrom_89 : decode cX3_copyFrom 89 = .ok (.aload_n 1, 1) := by decide +kernel
theorem dX3_copyFrom_90 : decode cX3_copyFrom 90 = .ok (.getfield 9, 3) := by decide +kernel
theorem dX3_copyFrom_93 : decode cX3_copyFrom 93 = .ok (.putfield 9, 3) := by decide +kernel
theorem dX3_copyFrom_96 : decode cX3_copyFrom 96 = .ok (.aload_n 0, 1) := by decide +kernel
theorem dX3_copyFrom_97 : decode cX3_copyFrom 97 = .ok (.aload_n 1, 1) := by decide +kernel
theorem dX3_copyFrom_98 : decode cX3_copyFrom 98 = .ok (.getfield 15, 3) := by decide +kernel
theorem dX3_copyFrom_101 : decode cX3_copyFrom 101 = .ok (.putfield 15, 3) := by decide +kernel
theorem dX3_copyFrom_104 : decode cX3_copyFrom 104 = .ok (.aload_n 1, 1) := by decide +kernel
theorem dX3_copyFrom_105 : decode cX3_copyFrom 105 = .ok (.getfield 18, 3) := by decide +kernel
theorem dX3_copyFrom_108 : decode cX3_copyFrom 108 = .ok (.iconst 0, 1) := by decide +kernel
theorem dX3_copyFrom_109 : decode cX3_copyFrom 109 = .ok (.aload_n 0, 1) := by decide +kernel
theorem dX3_copyFrom_110 : decode cX3_copyFrom 110 = .ok (.getfield 18, 3) := by decide +kernel
theorem dX3_copyFrom_113 : decode cX3_copyFrom 113 = .ok (.iconst 0, 1) := by decide +kernel
theorem dX3_copyFrom_114 : decode cX3_copyFrom 114 = .ok (.bipush 32, 2) := by decide +kernel
theorem dX3_copyFrom_116 : decode cX3_copyFrom 116 = .ok (.invokestatic 59, 3) := by decide +kernel
theorem dX3_copyFrom_119 : decode cX3_copyFrom 119 = .ok (.aload_n 1, 1) := by decide +kernel
theorem dX3_copyFrom_120 : decode cX3_copyFrom 120 = .ok (.getfield 22, 3) := by decide +kernel
theorem dX3_copyFrom_123 : decode cX3_copyFrom 123 = .ok (.iconst 0, 1) := by decide +kernel
theorem dX3_copyFrom_124 : decode cX3_copyFrom 124 = .ok (.aload_n 0, 1) := by decide +kernel
theorem dX3_copyFrom_125 : decode cX3_copyFrom 125 = .ok (.getfield 22, 3) := by decide +kernel
theorem dX3_copyFrom_128 : decode cX3_copyFrom 128 = .ok (.iconst 0, 1) := by decide +kernel
theorem dX3_copyFrom_129 : decode cX3_copyFrom 129 = .ok (.bipush 33, 2) := by decide +kernel
theorem dX3_copyFrom_131 : decode cX3_copyFrom 131 = .ok (.invokestatic 59, 3) := by decide +kernel
theorem dX3_copyFrom_134 : decode cX3_copyFrom 134 = .ok (.return_, 1) := by decide +kernel
set_option maxRecDepth 20000 in
theorem ggX3_beginAnew_X3_begin : GoodIn wsX3_beginAnew wsX3_begin := goodIn_r _ [7, 8, 9, 10, 11, 12, 13, 14, 15, 16, 17, 18, 19, 20, 21, 22, 23, 24, 25, 26, 27, 28, 29, 30, 31, 32, 33, 34, 35] (by decide +kernel) (by decide +kernel)
set_option maxRecDepth 20000 in
theorem gX3_beginAnew_X3_begin : GoodIn wsX3_beginAnew (wsV RX3 65 RX3 yX3_begin wsX3_begin) := goodIn_app (goodIn_of _ (by decide +kernel)) ggX3_beginAnew_X3_begin
theorem dX3_beginAnew_0 : decode cX3_beginAnew 0 = .ok (.aload_n 0, 1) := by decide +kernel
theorem dX3_beginAnew_1 : decode cX3_beginAnew 1 = .ok (.iconst 0, 1) := by decide +kernel
theorem dX3_beginAnew_2 : decode cX3_beginAnew 2 = .ok (.iconst 0, 1) := by decide +kernel
theorem dX3_beginAnew_3 : decode cX3_beginAnew 3 = .ok (.iconst 0, 1) := by decide +kernel
theorem dX3_beginAnew_4 : decode cX3_beginAnew 4 = .ok (.invokevirtual 65, 3) := by decide +kernel
theorem dX3_beginAnew_7 : decode cX3_beginAnew 7 = .ok (.aload_n 0, 1) := by decide +kernel
theorem dX3_beginAnew_8 : decode cX3_beginAnew 8 = .ok (.bipush 100, 2) := by decide +kernel
theorem dX3_beginAnew_10 : decode cX3_beginAnew 10 = .ok (.putfield 9, 3) := by decide +kernel
theorem dX3_beginAnew_13 : decode cX3_beginAnew 13 = .ok (.aload_n 0, 1) := by decide +kernel
theorem dX3_beginAnew_14 : decode cX3_beginAnew 14 = .ok (.bipush 8, 2) := by decide +kernel
theorem dX3_beginAnew_16 : decode cX3_beginAnew 16 = .ok (.putfield 15, 3) := by decide +kernel
theorem dX3_beginAnew_19 : decode cX3_beginAnew 19 = .ok (.return_, 1) := by decide +kernel
theorem dX3_begin_0 : decode cX3_begin 0 = .ok (.aload_n 0, 1) := by decide +kernel
theorem dX3_begin_1 : decode cX3_begin 1 = .ok (.iload_n 1, 1) := by decide +kernel
theorem dX3_begin_2 : decode cX3_begin 2 = .ok (.putfield 25, 3) := by decide +kernel
theorem dX3_begin_5 : decode cX3_begin 5 = .ok (.aload_n 0, 1) := by decide +kernel
theorem dX3_begin_6 : decode cX3_begin 6 = .ok (.iload_n 2, 1) := by decide +kernel
theorem dX3_begin_7 : decode cX3_begin 7 = .ok (.putfield 28, 3) := by decide +kernel
theorem dX3_begin_10 : decode cX3_begin 10 = .ok (.aload_n 0, 1) := by decide +kernel
theorem dX3_begin_11 : decode cX3_begin 11 = .ok (.iconst 0, 1) := by decide +kernel
theorem dX3_begin_12 : decode cX3_begin 12 = .ok (.putfield 31, 3) := by decide +kernel
theorem dX3_begin_15 : decode cX3_begin 15 = .ok (.aload_n 0, 1) := by decide +kernel
theorem dX3_begin_16 : decode cX3_begin 16 = .ok (.iload_n 1, 1) := by decide +kernel
theorem dX3_begin_17 : decode cX3_begin 17 = .ok (.putfield 34, 3) := by decide +kernel
theorem dX3_begin_20 : decode cX3_begin 20 = .ok (.aload_n 0, 1) := by decide +kernel
theorem dX3_begin_21 : decode cX3_begin 21 = .ok (.iload_n 3, 1) := by decide +kernel
theorem dX3_begin_22 : decode cX3_begin 22 = .ok (.putfield 37, 3) := by decide +kernel
theorem dX3_begin_25 : decode cX3_begin 25 = .ok (.aload_n 0, 1) := by decide +kernel
theorem dX3_begin_26 : decode cX3_begin 26 = .ok (.iconst 0, 1) := by decide +kernel
theorem dX3_begin_27 : decode cX3_begin 27 = .ok (.putfield 40, 3) := by decide +kernel
theorem dX3_begin_30 : decode cX3_begin 30 = .ok (.aload_n 0, 1) := by decide +kernel
theorem dX3_begin_31 : decode cX3_begin 31 = .ok (.iconst 0, 1) := by decide +kernel
theorem dX3_begin_32 : decode cX3_begin 32 = .ok (.putfield 43, 3) := by decide +kernel
theorem dX3_begin_35 : decode cX3_begin 35 = .ok (.aload_n 0, 1) := by decide +kernel
theorem dX3_begin_36 : decode cX3_begin 36 = .ok (.iconst 0, 1) := by decide +kernel
theorem dX3_begin_37 : decode cX3_begin 37 = .ok (.putfield 46, 3) := by decide +kernel
theorem dX3_begin_40 : decode cX3_begin 40 = .ok (.aload_n 0, 1) := by decide +kernel
theorem dX3_begin_41 : decode cX3_begin 41 = .ok (.iconst 0, 1) := by decide +kernel
theorem dX3_begin_42 : decode cX3_begin 42 = .ok (.putfield 49, 3) := by decide +kernel
theorem dX3_begin_45 : decode cX3_begin 45 = .ok (.aload_n 0, 1) := by decide +kernel
theorem dX3_begin_46 : decode cX3_begin 46 = .ok (.iconst 0, 1) := by decide +kernel
theorem dX3_begin_47 : decode cX3_begin 47 = .ok (.putfield 52, 3) := by decide +kernel
theorem dX3_begin_50 : decode cX3_begin 50 = .ok (.aload_n 0, 1) := by decide +kernel
theorem dX3_begin_51 : decode cX3_begin 51 = .ok (.iconst 0, 1) := by decide +kernel
theorem dX3_begin_52 : decode cX3_begin 52 = .ok (.putfield 55, 3) := by decide +kernel
theorem dX3_begin_55 : decode cX3_begin 55 = .ok (.iconst 0, 1) := by decide +kernel
theorem dX3_begin_56 : decode cX3_begin 56 = .ok (.istore 4, 2) := by decide +kernel
theorem dX3_begin_58 : decode cX3_begin 58 = .ok (.iload 4, 2) := by decide +kernel
theorem dX3_begin_60 : decode cX3_begin 60 = .ok (.aload_n 0, 1) := by decide +kernel
theorem dX3_begin_61 : decode cX3_begin 61 = .ok (.getfield 18, 3) := by decide +kernel
theorem dX3_begin_64 : decode cX3_begin 64 = .ok (.arraylength, 1) := by decide +kernel
theorem dX3_begin_65 : decode cX3_begin 65 = .ok (.if_icmp .ge 17, 3) := by decide +kernel
theorem dX3_begin_68 : decode cX3_begin 68 = .ok (.aload_n 0, 1) := by decide +kernel
theorem dX3_begin_69 : decode cX3_begin 69 = .ok (.getfield 18, 3) := by decide +kernel
theorem dX3_begin_72 : decode cX3_begin 72 = .ok (.iload 4, 2) := by decide +kernel
theorem dX3_begin_74 : decode cX3_begin 74 = .ok (.iconst 0, 1) := by decide +kernel
theorem dX3_begin_75 : decode cX3_begin 75 = .ok (.iastore, 1) := by decide +kernel
theorem dX3_begin_76 : decode cX3_begin 76 = .ok (.iinc 4 1, 3) := by decide +kernel
theorem dX3_begin_79 : decode cX3_begin 79 = .ok (.goto (-21), 3) := by decide +kernel
theorem dX3_begin_82 : decode cX3_begin 82 = .ok (.iconst 0, 1) := by decide +kernel
theorem dX3_begin_83 : decode cX3_begin 83 = .ok (.istore 4, 2) := by decide +kernel
theorem dX3_begin_85 : decode cX3_begin 85 = .ok (.iload 4, 2) := by decide +kernel
theorem dX3_begin_87 : decode cX3_begin 87 = .ok (.aload_n 0, 1) := by decide +kernel
theorem dX3_begin_88 : decode cX3_begin 88 = .ok (.getfield 22, 3) := by decide +kernel
theorem dX3_begin_91 : decode cX3_begin 91 = .ok (.arraylength, 1) := by decide +kernel
theorem dX3_begin_92 : decode cX3_begin 92 = .ok (.if_icmp .ge 17, 3) := by decide +kernel
theorem dX3_begin_95 : decode cX3_begin 95 = .ok (.aload_n 0, 1) := by decide +kernel
theorem dX3_begin_96 : decode cX3_begin 96 = .ok (.getfield 22, 3) := by decide +kernel
theorem dX3_begin_99 : decode cX3_begin 99 = .ok (.iload 4, 2) := by decide +kernel
theorem dX3_begin_101 : decode cX3_begin 101 = .ok (.iconst 0, 1) := by decide +kernel
theorem dX3_begin_102 : decode cX3_begin 102 = .ok (.iastore, 1) := by decide +kernel
theorem dX3_begin_103 : decode cX3_begin 103 = .ok (.iinc 4 1, 3) := by decide +kernel
theorem dX3_begin_106 : decode cX3_begin 106 = .ok (.goto (-21), 3) := by decide +kernel
theorem dX3_begin_109 : decode cX3_begin 109 = .ok (.return_, 1) := by decide +kernel
theorem dX3_exists_0 : decode cX3_exists 0 = .ok (.aload_n 0, 1) := by decide +kernel
theorem dX3_exists_1 : decode cX3_exists 1 = .ok (.getfield 25, 3) := by decide +kernel
theorem dX3_exists_4 : decode cX3_exists 4 = .ok (.ifCond .le 7, 3) := by decide +kernel
theorem dX3_exists_7 : decode cX3_exists 7 = .ok (.iconst 1, 1) := by decide +kernel
theorem dX3_exists_8 : decode cX3_exists 8 = .ok (.goto 4, 3) := by decide +kernel
theorem dX3_exists_11 : decode cX3_exists 11 = .ok (.iconst 0, 1) := by decide +kernel
theorem dX3_exists_12 : decode cX3_exists 12 = .ok (.ireturn, 1) := by decide +kernel
theorem dX3_hasLine_0 : decode cX3_hasLine 0 = .ok (.iload_n 1, 1) := by decide +kernel
theorem dX3_hasLine_1 : decode cX3_hasLine 1 = .ok (.ifCond .lt 15, 3) := by decide +kernel
theorem dX3_hasLine_4 : decode cX3_hasLine 4 = .ok (.iload_n 1, 1) := by decide +kernel
theorem dX3_hasLine_5 : decode cX3_hasLine 5 = .ok (.aload_n 0, 1) := by decide +kernel
theorem dX3_hasLine_6 : decode cX3_hasLine 6 = .ok (.getfield 25, 3) := by decide +kernel
theorem dX3_hasLine_9 : decode cX3_hasLine 9 = .ok (.if_icmp .ge 7, 3) := by decide +kernel
theorem dX3_hasLine_12 : decode cX3_hasLine 12 = .ok (.iconst 1, 1) := by decide +kernel
theorem dX3_hasLine_13 : decode cX3_hasLine 13 = .ok (.goto 4, 3) := by decide +kernel
theorem dX3_hasLine_16 : decode cX3_hasLine 16 = .ok (.iconst 0, 1) := by decide +kernel
theorem dX3_hasLine_17 : decode cX3_hasLine 17 = .ok (.ireturn, 1) := by decide +kernel
theorem dX3_hasPlace_0 : decode cX3_hasPlace 0 = .ok (.aload_n 0, 1) := by decide +kernel
theorem dX3_hasPlace_1 : decode cX3_hasPlace 1 = .ok (.getfield 25, 3) := by decide +kernel
theorem dX3_hasPlace_4 : decode cX3_hasPlace 4 = .ok (.ifCond .le 19, 3) := by decide +kernel
theorem dX3_hasPlace_7 : decode cX3_hasPlace 7 = .ok (.iload_n 1, 1) := by decide +kernel
theorem dX3_hasPlace_8 : decode cX3_hasPlace 8 = .ok (.ifCond .lt 15, 3) := by decide +kernel
theorem dX3_hasPlace_11 : decode cX3_hasPlace 11 = .ok (.iload_n 1, 1) := by decide +kernel
theorem dX3_hasPlace_12 : decode cX3_hasPlace 12 = .ok (.aload_n 0, 1) := by decide +kernel
theorem dX3_hasPlace_13 : decode cX3_hasPlace 13 = .ok (.getfield 25, 3) := by decide +kernel
theorem dX3_hasPlace_16 : decode cX3_hasPlace 16 = .ok (.if_icmp .gt 7, 3) := by decide +kernel
theorem dX3_hasPlace_19 : decode cX3_hasPlace 19 = .ok (.iconst 1, 1) := by decide +kernel
theorem dX3_hasPlace_20 : decode cX3_hasPlace 20 = .ok (.goto 4, 3) := by decide +kernel
theorem dX3_hasPlace_23 : decode cX3_hasPlace 23 = .ok (.iconst 0, 1) := by decide +kernel
theorem dX3_hasPlace_24 : decode cX3_hasPlace 24 = .ok (.ireturn, 1) := by decide +kernel
set_option maxRecDepth 20000 in
theorem ggX3_number_X3_greatestWear : GoodIn wsX3_number wsX3_greatestWear := goodIn_r _ [15, 16, 1, 17, 18, 19, 20, 28, 29, 30, 31, 32, 33, 34, 35, 36, 37, 38, 39, 40, 41, 42] (by decide +kernel) (by decide +kernel)
set_option maxRecDepth 20000 in
theorem gX3_number_X3_greatestWear : GoodIn wsX3_number (wsV RX3 69 RX3 yX3_greatestWear wsX3_greatestWear) := goodIn_app (goodIn_of _ (by decide +kernel)) ggX3_number_X3_greatestWear
set_option maxRecDepth 20000 in
theorem ggX3_number_X3_leastWear : GoodIn wsX3_number wsX3_leastWear := goodIn_r _ [24, 16, 1, 25, 26, 19, 27, 28, 29, 30, 31, 32, 33, 34, 35, 36, 37, 38, 39, 40, 41, 42] (by decide +kernel) (by decide +kernel)
set_option maxRecDepth 20000 in
theorem gX3_number_X3_leastWear : GoodIn wsX3_number (wsV RX3 73 RX3 yX3_leastWear wsX3_leastWear) := goodIn_app (goodIn_of _ (by decide +kernel)) ggX3_number_X3_leastWear
theorem dX3_number_0 : decode cX3_number 0 = .ok (.iload_n 1, 1) := by decide +kernel
theorem dX3_number_1 : decode cX3_number 1 = .ok (.tableswitch 131 0 11 #[63, 68, 73, 78, 83, 88, 93, 98, 103, 108, 121, 126], 63) := by decide +kernel
theorem dX3_number_64 : decode cX3_number 64 = .ok (.aload_n 0, 1) := by decide +kernel
theorem dX3_number_65 : decode cX3_number 65 = .ok (.getfield 25, 3) := by decide +kernel
theorem dX3_number_68 : decode cX3_number 68 = .ok (.ireturn, 1) := by decide +kernel
theorem dX3_number_69 : decode cX3_number 69 = .ok (.aload_n 0, 1) := by decide +kernel
theorem dX3_number_70 : decode cX3_number 70 = .ok (.getfield 31, 3) := by decide +kernel
theorem dX3_number_73 : decode cX3_number 73 = .ok (.ireturn, 1) := by decide +kernel
theorem dX3_number_74 : decode cX3_number 74 = .ok (.aload_n 0, 1) := by decide +kernel
theorem dX3_number_75 : decode cX3_number 75 = .ok (.getfield 34, 3) := by decide +kernel
theorem dX3_number_78 : decode cX3_number 78 = .ok (.ireturn, 1) := by decide +kernel
theorem dX3_number_79 : decode cX3_number 79 = .ok (.aload_n 0, 1) := by decide +kernel
theorem dX3_number_80 : decode cX3_number 80 = .ok (.getfield 37, 3) := by decide +kernel
theorem dX3_number_83 : decode cX3_number 83 = .ok (.ireturn, 1) := by decide +kernel
theorem dX3_number_84 : decode cX3_number 84 = .ok (.aload_n 0, 1) := by decide +kernel
theorem dX3_number_85 : decode cX3_number 85 = .ok (.getfield 40, 3) := by decide +kernel
theorem dX3_number_88 : decode cX3_number 88 = .ok (.ireturn, 1) := by decide +kernel
theorem dX3_number_89 : decode cX3_number 89 = .ok (.aload_n 0, 1) := by decide +kernel
theorem dX3_number_90 : decode cX3_number 90 = .ok (.getfield 43, 3) := by decide +kernel
theorem dX3_number_93 : decode cX3_number 93 = .ok (.ireturn, 1) := by decide +kernel
theorem dX3_number_94 : decode cX3_number 94 = .ok (.aload_n 0, 1) := by decide +kernel
theorem dX3_number_95 : decode cX3_number 95 = .ok (.invokevirtual 69, 3) := by decide +kernel
theorem dX3_number_98 : decode cX3_number 98 = .ok (.ireturn, 1) := by decide +kernel
theorem dX3_number_99 : decode cX3_number 99 = .ok (.aload_n 0, 1) := by decide +kernel
theorem dX3_number_100 : decode cX3_number 100 = .ok (.invokevirtual 73, 3) := by decide +kernel
theorem dX3_number_103 : decode cX3_number 103 = .ok (.ireturn, 1) := by decide +kernel
theorem dX3_number_104 : decode cX3_number 104 = .ok (.aload_n 0, 1) := by decide +kernel
theorem dX3_number_105 : decode cX3_number 105 = .ok (.getfield 46, 3) := by decide +kernel
theorem dX3_number_108 : decode cX3_number 108 = .ok (.ireturn, 1) := by decide +kernel
theorem dX3_number_109 : decode cX3_number 109 = .ok (.aload_n 0, 1) := by decide +kernel
theorem dX3_number_110 : decode cX3_number 110 = .ok (.getfield 55, 3) := by decide +kernel
theorem dX3_number_113 : decode cX3_number 113 = .ok (.ifCond .eq 7, 3) := by decide +kernel
theorem dX3_number_116 : decode cX3_number 116 = .ok (.iconst 1, 1) := by decide +kernel
theorem dX3_number_117 : decode cX3_number 117 = .ok (.goto 4, 3) := by decide +kernel
theorem dX3_number_120 : decode cX3_number 120 = .ok (.iconst 0, 1) := by decide +kernel
theorem dX3_number_121 : decode cX3_number 121 = .ok (.ireturn, 1) := by decide +kernel
theorem dX3_number_122 : decode cX3_number 122 = .ok (.aload_n 0, 1) := by decide +kernel
theorem dX3_number_123 : decode cX3_number 123 = .ok (.getfield 49, 3) := by decide +kernel
theorem dX3_number_126 : decode cX3_number 126 = .ok (.ireturn, 1) := by decide +kernel
theorem dX3_number_127 : decode cX3_number 127 = .ok (.aload_n 0, 1) := by decide +kernel
theorem dX3_number_128 : decode cX3_number 128 = .ok (.getfield 52, 3) := by decide +kernel
theorem dX3_number_131 : decode cX3_number 131 = .ok (.ireturn, 1) := by decide +kernel
theorem dX3_number_132 : decode cX3_number 132 = .ok (.iconst 0, 1) := by decide +kernel
theorem dX3_number_133 : decode cX3_number 133 = .ok (.ireturn, 1) := by decide +kernel
theorem dX3_greatestWear_0 : decode cX3_greatestWear 0 = .ok (.aload_n 0, 1) := by decide +kernel
theorem dX3_greatestWear_1 : decode cX3_greatestWear 1 = .ok (.getfield 22, 3) := by decide +kernel
theorem dX3_greatestWear_4 : decode cX3_greatestWear 4 = .ok (.iconst 0, 1) := by decide +kernel
theorem dX3_greatestWear_5 : decode cX3_greatestWear 5 = .ok (.iaload, 1) := by decide +kernel
theorem dX3_greatestWear_6 : decode cX3_greatestWear 6 = .ok (.istore_n 1, 1) := by decide +kernel
theorem dX3_greatestWear_7 : decode cX3_greatestWear 7 = .ok (.iconst 1, 1) := by decide +kernel
theorem dX3_greatestWear_8 : decode cX3_greatestWear 8 = .ok (.istore_n 2, 1) := by decide +kernel
theorem dX3_greatestWear_9 : decode cX3_greatestWear 9 = .ok (.iload_n 2, 1) := by decide +kernel
theorem dX3_greatestWear_10 : decode cX3_greatestWear 10 = .ok (.aload_n 0, 1) := by decide +kernel
theorem dX3_greatestWear_11 : decode cX3_greatestWear 11 = .ok (.getfield 25, 3) := by decide +kernel
theorem dX3_greatestWear_14 : decode cX3_greatestWear 14 = .ok (.if_icmp .gt 20, 3) := by decide +kernel
theorem dX3_greatestWear_17 : decode cX3_greatestWear 17 = .ok (.iload_n 1, 1) := by decide +kernel
theorem dX3_greatestWear_18 : decode cX3_greatestWear 18 = .ok (.aload_n 0, 1) := by decide +kernel
theorem dX3_greatestWear_19 : decode cX3_greatestWear 19 = .ok (.getfield 22, 3) := by decide +kernel
theorem dX3_greatestWear_22 : decode cX3_greatestWear 22 = .ok (.iload_n 2, 1) := by decide +kernel
theorem dX3_greatestWear_23 : decode cX3_greatestWear 23 = .ok (.iaload, 1) := by decide +kernel
theorem dX3_greatestWear_24 : decode cX3_greatestWear 24 = .ok (.invokestatic 76, 3) := by decide +kernel
theorem dX3_greatestWear_27 : decode cX3_greatestWear 27 = .ok (.istore_n 1, 1) := by decide +kernel
theorem dX3_greatestWear_28 : decode cX3_greatestWear 28 = .ok (.iinc 2 1, 3) := by decide +kernel
theorem dX3_greatestWear_31 : decode cX3_greatestWear 31 = .ok (.goto (-22), 3) := by decide +kernel
theorem dX3_greatestWear_34 : decode cX3_greatestWear 34 = .ok (.iload_n 1, 1) := by decide +kernel
theorem dX3_greatestWear_35 : decode cX3_greatestWear 35 = .ok (.ireturn, 1) := by decide +kernel
theorem dX3_leastWear_0 : decode cX3_leastWear 0 = .ok (.aload_n 0, 1) := by decide +kernel
theorem dX3_leastWear_1 : decode cX3_leastWear 1 = .ok (.getfield 22, 3) := by decide +kernel
theorem dX3_leastWear_4 : decode cX3_leastWear 4 = .ok (.iconst 0, 1) := by decide +kernel
theorem dX3_leastWear_5 : decode cX3_leastWear 5 = .ok (.iaload, 1) := by decide +kernel
theorem dX3_leastWear_6 : decode cX3_leastWear 6 = .ok (.istore_n 1, 1) := by decide +kernel
theorem dX3_leastWear_7 : decode cX3_leastWear 7 = .ok (.iconst 1, 1) := by decide +kernel
theorem dX3_leastWear_8 : decode cX3_leastWear 8 = .ok (.istore_n 2, 1) := by decide +kernel
theorem dX3_leastWear_9 : decode cX3_leastWear 9 = .ok (.iload_n 2, 1) := by decide +kernel
theorem dX3_leastWear_10 : decode cX3_leastWear 10 = .ok (.aload_n 0, 1) := by decide +kernel
theorem dX3_leastWear_11 : decode cX3_leastWear 11 = .ok (.getfield 25, 3) := by decide +kernel
theorem dX3_leastWear_14 : decode cX3_leastWear 14 = .ok (.if_icmp .gt 20, 3) := by decide +kernel
theorem dX3_leastWear_17 : decode cX3_leastWear 17 = .ok (.iload_n 1, 1) := by decide +kernel
theorem dX3_leastWear_18 : decode cX3_leastWear 18 = .ok (.aload_n 0, 1) := by decide +kernel
theorem dX3_leastWear_19 : decode cX3_leastWear 19 = .ok (.getfield 22, 3) := by decide +kernel
theorem dX3_leastWear_22 : decode cX3_leastWear 22 = .ok (.iload_n 2, 1) := by decide +kernel
theorem dX3_leastWear_23 : decode cX3_leastWear 23 = .ok (.iaload, 1) := by decide +kernel
theorem dX3_leastWear_24 : decode cX3_leastWear 24 = .ok (.invokestatic 82, 3) := by decide +kernel
theorem dX3_leastWear_27 : decode cX3_leastWear 27 = .ok (.istore_n 1, 1) := by decide +kernel
theorem dX3_leastWear_28 : decode cX3_leastWear 28 = .ok (.iinc 2 1, 3) := by decide +kernel
theorem dX3_leastWear_31 : decode cX3_leastWear 31 = .ok (.goto (-22), 3) := by decide +kernel
theorem dX3_leastWear_34 : decode cX3_leastWear 34 = .ok (.iload_n 1, 1) := by decide +kernel
theorem dX3_leastWear_35 : decode cX3_leastWear 35 = .ok (.ireturn, 1) := by decide +kernel
set_option maxRecDepth 20000 in
theorem ggX3_valueOf_X3_hasLine : GoodIn wsX3_valueOf wsX3_hasLine := goodIn_r _ [6, 7, 8, 9, 10, 11, 12, 13, 14, 15, 16, 17, 18, 19, 20, 21, 22] (by decide +kernel) (by decide +kernel)
set_option maxRecDepth 20000 in
theorem gX3_valueOf_X3_hasLine : GoodIn wsX3_valueOf (wsV RX3 85 RX3 yX3_hasLine wsX3_hasLine) := goodIn_app (goodIn_of _ (by decide +kernel)) ggX3_valueOf_X3_hasLine
theorem dX3_valueOf_0 : decode cX3_valueOf 0 = .ok (.aload_n 0, 1) := by decide +kernel
theorem dX3_valueOf_1 : decode cX3_valueOf 1 = .ok (.iload_n 1, 1) := by decide +kernel
theorem dX3_valueOf_2 : decode cX3_valueOf 2 = .ok (.invokevirtual 85, 3) := by decide +kernel
theorem dX3_valueOf_5 : decode cX3_valueOf 5 = .ok (.ifCond .eq 12, 3) := by decide +kernel
theorem dX3_valueOf_8 : decode cX3_valueOf 8 = .ok (.aload_n 0, 1) := by decide +kernel
theorem dX3_valueOf_9 : decode cX3_valueOf 9 = .ok (.getfield 18, 3) := by decide +kernel
theorem dX3_valueOf_12 : decode cX3_valueOf 12 = .ok (.iload_n 1, 1) := by decide +kernel
theorem dX3_valueOf_13 : decode cX3_valueOf 13 = .ok (.iaload, 1) := by decide +kernel
theorem dX3_valueOf_14 : decode cX3_valueOf 14 = .ok (.goto 4, 3) := by decide +kernel
theorem dX3_valueOf_17 : decode cX3_valueOf 17 = .ok (.iconst (-1), 1) := by decide +kernel
theorem dX3_valueOf_18 : decode cX3_valueOf 18 = .ok (.ireturn, 1) := by decide +kernel
set_option maxRecDepth 20000 in
theorem ggX3_wearOf_X3_hasPlace : GoodIn wsX3_wearOf wsX3_hasPlace := goodIn_r _ [6, 7, 8, 9, 10, 11, 12, 13, 14, 15, 16, 17, 18, 19, 20, 21, 22] (by decide +kernel) (by decide +kernel)
set_option maxRecDepth 20000 in
theorem gX3_wearOf_X3_hasPlace : GoodIn wsX3_wearOf (wsV RX3 89 RX3 yX3_hasPlace wsX3_hasPlace) := goodIn_app (goodIn_of _ (by decide +kernel)) ggX3_wearOf_X3_hasPlace
theorem dX3_wearOf_0 : decode cX3_wearOf 0 = .ok (.aload_n 0, 1) := by decide +kernel
theorem dX3_wearOf_1 : decode cX3_wearOf 1 = .ok (.iload_n 1, 1) := by decide +kernel
theorem dX3_wearOf_2 : decode cX3_wearOf 2 = .ok (.invokevirtual 89, 3) := by decide +kernel
theorem dX3_wearOf_5 : decode cX3_wearOf 5 = .ok (.ifCond .eq 12, 3) := by decide +kernel
theorem dX3_wearOf_8 : decode cX3_wearOf 8 = .ok (.aload_n 0, 1) := by decide +kernel
theorem dX3_wearOf_9 : decode cX3_wearOf 9 = .ok (.getfield 22, 3) := by decide +kernel
theorem dX3_wearOf_12 : decode cX3_wearOf 12 = .ok (.iload_n 1, 1) := by decide +kernel
theorem dX3_wearOf_13 : decode cX3_wearOf 13 = .ok (.iaload, 1) := by decide +kernel
theorem dX3_wearOf_14 : decode cX3_wearOf 14 = .ok (.goto 4, 3) := by decide +kernel
theorem dX3_wearOf_17 : decode cX3_wearOf 17 = .ok (.iconst (-1), 1) := by decide +kernel
theorem dX3_wearOf_18 : decode cX3_wearOf 18 = .ok (.ireturn, 1) := by decide +kernel
theorem dX3_settingOf_0 : decode cX3_settingOf 0 = .ok (.iload_n 1, 1) := by decide +kernel
theorem dX3_settingOf_1 : decode cX3_settingOf 1 = .ok (.ifCond .ne 10, 3) := by decide +kernel
theorem dX3_settingOf_4 : decode cX3_settingOf 4 = .ok (.aload_n 0, 1) := by decide +kernel
theorem dX3_settingOf_5 : decode cX3_settingOf 5 = .ok (.getfield 9, 3) := by decide +kernel
theorem dX3_settingOf_8 : decode cX3_settingOf 8 = .ok (.goto 7, 3) := by decide +kernel
theorem dX3_settingOf_11 : decode cX3_settingOf 11 = .ok (.aload_n 0, 1) := by decide +kernel
theorem dX3_settingOf_12 : decode cX3_settingOf 12 = .ok (.getfield 15, 3) := by decide +kernel
theorem dX3_settingOf_15 : decode cX3_settingOf 15 = .ok (.ireturn, 1) := by decide +kernel
theorem dX3_changeSetting_0 : decode cX3_changeSetting 0 = .ok (.iload_n 1, 1) := by decide +kernel
theorem dX3_changeSetting_1 : decode cX3_changeSetting 1 = .ok (.ifCond .ne 11, 3) := by decide +kernel
theorem dX3_changeSetting_4 : decode cX3_changeSetting 4 = .ok (.aload_n 0, 1) := by decide +kernel
theorem dX3_changeSetting_5 : decode cX3_changeSetting 5 = .ok (.iload_n 2, 1) := by decide +kernel
theorem dX3_changeSetting_6 : decode cX3_changeSetting 6 = .ok (.putfield 9, 3) := by decide +kernel
theorem dX3_changeSetting_9 : decode cX3_changeSetting 9 = .ok (.goto 8, 3) := by decide +kernel
theorem dX3_changeSetting_12 : decode cX3_changeSetting 12 = .ok (.aload_n 0, 1) := by decide +kernel
theorem dX3_changeSetting_13 : decode cX3_changeSetting 13 = .ok (.iload_n 2, 1) := by decide +kernel
theorem dX3_changeSetting_14 : decode cX3_changeSetting 14 = .ok (.putfield 15, 3) := by decide +kernel
theorem dX3_changeSetting_17 : decode cX3_changeSetting 17 = .ok (.return_, 1) := by decide +kernel
theorem dX3_rankOf_0 : decode cX3_rankOf 0 = .ok (.iload_n 1, 1) := by decide +kernel
theorem dX3_rankOf_1 : decode cX3_rankOf 1 = .ok (.ifCond .lt 27, 3) := by decide +kernel
theorem dX3_rankOf_4 : decode cX3_rankOf 4 = .ok (.iload_n 1, 1) := by decide +kernel
theorem dX3_rankOf_5 : decode cX3_rankOf 5 = .ok (.aload_n 0, 1) := by decide +kernel
theorem dX3_rankOf_6 : decode cX3_rankOf 6 = .ok (.getfield 25, 3) := by decide +kernel
theorem dX3_rankOf_9 : decode cX3_rankOf 9 = .ok (.if_icmp .ge 19, 3) := by decide +kernel
theorem dX3_rankOf_12 : decode cX3_rankOf 12 = .ok (.aload_n 0, 1) := by decide +kernel
theorem dX3_rankOf_13 : decode cX3_rankOf 13 = .ok (.getfield 28, 3) := by decide +kernel
theorem dX3_rankOf_16 : decode cX3_rankOf 16 = .ok (.iload_n 1, 1) := by decide +kernel
theorem dX3_rankOf_17 : decode cX3_rankOf 17 = .ok (.imul, 1) := by decide +kernel
theorem dX3_rankOf_18 : decode cX3_rankOf 18 = .ok (.iload_n 2, 1) := by decide +kernel
theorem dX3_rankOf_19 : decode cX3_rankOf 19 = .ok (.iadd, 1) := by decide +kernel
theorem dX3_rankOf_20 : decode cX3_rankOf 20 = .ok (.aload_n 0, 1) := by decide +kernel
theorem dX3_rankOf_21 : decode cX3_rankOf 21 = .ok (.getfield 25, 3) := by decide +kernel
theorem dX3_rankOf_24 : decode cX3_rankOf 24 = .ok (.irem, 1) := by decide +kernel
theorem dX3_rankOf_25 : decode cX3_rankOf 25 = .ok (.goto 4, 3) := by decide +kernel
theorem dX3_rankOf_28 : decode cX3_rankOf 28 = .ok (.iconst (-1), 1) := by decide +kernel
theorem dX3_rankOf_29 : decode cX3_rankOf 29 = .ok (.ireturn, 1) := by decide +kernel
set_option maxRecDepth 20000 in
theorem ggX3_placeOf_X3_rankOf : GoodIn wsX3_placeOf wsX3_rankOf := goodIn_r _ [7, 8, 9, 10, 11, 12, 13, 14, 15, 16, 17, 18, 19, 20, 21, 22, 23, 24] (by decide +kernel) (by decide +kernel)
set_option maxRecDepth 20000 in
theorem gX3_placeOf_X3_rankOf : GoodIn wsX3_placeOf (wsV RX3 92 RX3 yX3_rankOf wsX3_rankOf) := goodIn_app (goodIn_of _ (by decide +kernel)) ggX3_placeOf_X3_rankOf
theorem dX3_placeOf_0 : decode cX3_placeOf 0 = .ok (.aload_n 0, 1) := by decide +kernel
theorem dX3_placeOf_1 : decode cX3_placeOf 1 = .ok (.iload_n 1, 1) := by decide +kernel
theorem dX3_placeOf_2 : decode cX3_placeOf 2 = .ok (.aload_n 0, 1) := by decide +kernel
theorem dX3_placeOf_3 : decode cX3_placeOf 3 = .ok (.getfield 31, 3) := by decide +kernel
theorem dX3_placeOf_6 : decode cX3_placeOf 6 = .ok (.invokevirtual 92, 3) := by decide +kernel
theorem dX3_placeOf_9 : decode cX3_placeOf 9 = .ok (.istore_n 2, 1) := by decide +kernel
theorem dX3_placeOf_10 : decode cX3_placeOf 10 = .ok (.iload_n 2, 1) := by decide +kernel
theorem dX3_placeOf_11 : decode cX3_placeOf 11 = .ok (.aload_n 0, 1) := by decide +kernel
theorem dX3_placeOf_12 : decode cX3_placeOf 12 = .ok (.getfield 34, 3) := by decide +kernel
theorem dX3_placeOf_15 : decode cX3_placeOf 15 = .ok (.if_icmp .ge 7, 3) := by decide +kernel
theorem dX3_placeOf_18 : decode cX3_placeOf 18 = .ok (.iload_n 2, 1) := by decide +kernel
theorem dX3_placeOf_19 : decode cX3_placeOf 19 = .ok (.goto 6, 3) := by decide +kernel
theorem dX3_placeOf_22 : decode cX3_placeOf 22 = .ok (.iload_n 2, 1) := by decide +kernel
theorem dX3_placeOf_23 : decode cX3_placeOf 23 = .ok (.iconst 1, 1) := by decide +kernel
theorem dX3_placeOf_24 : decode cX3_placeOf 24 = .ok (.iadd, 1) := by decide +kernel
theorem dX3_placeOf_25 : decode cX3_placeOf 25 = .ok (.ireturn, 1) := by decide +kernel
set_option maxRecDepth 20000 in
theorem ggX3_lineAt_X3_rankOf : GoodIn wsX3_lineAt wsX3_rankOf := goodIn_r _ [8, 2, 9, 10, 11, 12, 13, 14, 15, 16, 17, 18, 19, 20, 21, 22, 23, 24] (by decide +kernel) (by decide +kernel)
set_option maxRecDepth 20000 in
theorem gX3_lineAt_X3_rankOf : GoodIn wsX3_lineAt (wsV RX3 92 RX3 yX3_rankOf wsX3_rankOf) := goodIn_app (goodIn_of _ (by decide +kernel)) ggX3_lineAt_X3_rankOf
theorem dX3_lineAt_0 : decode cX3_lineAt 0 = .ok (.iload_n 1, 1) := by decide +kernel
theorem dX3_lineAt_1 : decode cX3_lineAt 1 = .ok (.aload_n 0, 1) := by decide +kernel
theorem dX3_lineAt_2 : decode cX3_lineAt 2 = .ok (.getfield 34, 3) := by decide +kernel
theorem dX3_lineAt_5 : decode cX3_lineAt 5 = .ok (.if_icmp .ne 5, 3) := by decide +kernel
theorem dX3_lineAt_8 : decode cX3_lineAt 8 = .ok (.iconst (-1), 1) := by decide +kernel
theorem dX3_lineAt_9 : decode cX3_lineAt 9 = .ok (.ireturn, 1) := by decide +kernel
theorem dX3_lineAt_10 : decode cX3_lineAt 10 = .ok (.iload_n 1, 1) := by decide +kernel
theorem dX3_lineAt_11 : decode cX3_lineAt 11 = .ok (.aload_n 0, 1) := by decide +kernel
theorem dX3_lineAt_12 : decode cX3_lineAt 12 = .ok (.getfield 34, 3) := by decide +kernel
theorem dX3_lineAt_15 : decode cX3_lineAt 15 = .ok (.if_icmp .ge 7, 3) := by decide +kernel
theorem dX3_lineAt_18 : decode cX3_lineAt 18 = .ok (.iload_n 1, 1) := by decide +kernel
theorem dX3_lineAt_19 : decode cX3_lineAt 19 = .ok (.goto 6, 3) := by decide +kernel
theorem dX3_lineAt_22 : decode cX3_lineAt 22 = .ok (.iload_n 1, 1) := by decide +kernel
theorem dX3_lineAt_23 : decode cX3_lineAt 23 = .ok (.iconst 1, 1) := by decide +kernel
theorem dX3_lineAt_24 : decode cX3_lineAt 24 = .ok (.isub, 1) := by decide +kernel
theorem dX3_lineAt_25 : decode cX3_lineAt 25 = .ok (.istore_n 2, 1) := by decide +kernel
theorem dX3_lineAt_26 : decode cX3_lineAt 26 = .ok (.iconst 0, 1) := by decide +kernel
theorem dX3_lineAt_27 : decode cX3_lineAt 27 = .ok (.istore_n 3, 1) := by decide +kernel
theorem dX3_lineAt_28 : decode cX3_lineAt 28 = .ok (.iload_n 3, 1) := by decide +kernel
theorem dX3_lineAt_29 : decode cX3_lineAt 29 = .ok (.aload_n 0, 1) := by decide +kernel
theorem dX3_lineAt_30 : decode cX3_lineAt 30 = .ok (.getfield 25, 3) := by decide +kernel
theorem dX3_lineAt_33 : decode cX3_lineAt 33 = .ok (.if_icmp .ge 24, 3) := by decide +kernel
theorem dX3_lineAt_36 : decode cX3_lineAt 36 = .ok (.aload_n 0, 1) := by decide +kernel
theorem dX3_lineAt_37 : decode cX3_lineAt 37 = .ok (.iload_n 3, 1) := by decide +kernel
theorem dX3_lineAt_38 : decode cX3_lineAt 38 = .ok (.aload_n 0, 1) := by decide +kernel
theorem dX3_lineAt_39 : decode cX3_lineAt 39 = .ok (.getfield 31, 3) := by decide +kernel
theorem dX3_lineAt_42 : decode cX3_lineAt 42 = .ok (.invokevirtual 92, 3) := by decide +kernel
theorem dX3_lineAt_45 : decode cX3_lineAt 45 = .ok (.iload_n 2, 1) := by decide +kernel
theorem dX3_lineAt_46 : decode cX3_lineAt 46 = .ok (.if_icmp .ne 5, 3) := by decide +kernel
theorem dX3_lineAt_49 : decode cX3_lineAt 49 = .ok (.iload_n 3, 1) := by decide +kernel
theorem dX3_lineAt_50 : decode cX3_lineAt 50 = .ok (.ireturn, 1) := by decide +kernel
theorem dX3_lineAt_51 : decode cX3_lineAt 51 = .ok (.iinc 3 1, 3) := by decide +kernel
theorem dX3_lineAt_54 : decode cX3_lineAt 54 = .ok (.goto (-26), 3) := by decide +kernel
theorem dX3_lineAt_57 : decode cX3_lineAt 57 = .ok (.iconst (-1), 1) := by decide +kernel
theorem dX3_lineAt_58 : decode cX3_lineAt 58 = .ok (.ireturn, 1) := by decide +kernel
set_option maxRecDepth 20000 in
theorem ggX3_movesUntilMoved_X3_rankOf : GoodIn wsX3_movesUntilMoved wsX3_rankOf := goodIn_r _ [8, 3, 9, 10, 11, 12, 13, 14, 15, 16, 17, 18, 19, 20, 21, 22, 23, 24] (by decide +kernel) (by decide +kernel)
set_option maxRecDepth 20000 in
theorem gX3_movesUntilMoved_X3_rankOf : GoodIn wsX3_movesUntilMoved (wsV RX3 92 RX3 yX3_rankOf wsX3_rankOf) := goodIn_app (goodIn_of _ (by decide +kernel)) ggX3_movesUntilMoved_X3_rankOf
theorem dX3_movesUntilMoved_0 : decode cX3_movesUntilMoved 0 = .ok (.aload_n 0, 1) := by decide +kernel
theorem dX3_movesUntilMoved_1 : decode cX3_movesUntilMoved 1 = .ok (.iload_n 1, 1) := by decide +kernel
theorem dX3_movesUntilMoved_2 : decode cX3_movesUntilMoved 2 = .ok (.aload_n 0, 1) := by decide +kernel
theorem dX3_movesUntilMoved_3 : decode cX3_movesUntilMoved 3 = .ok (.getfield 31, 3) := by decide +kernel
theorem dX3_movesUntilMoved_6 : decode cX3_movesUntilMoved 6 = .ok (.invokevirtual 92, 3) := by decide +kernel
theorem dX3_movesUntilMoved_9 : decode cX3_movesUntilMoved 9 = .ok (.istore_n 2, 1) := by decide +kernel
theorem dX3_movesUntilMoved_10 : decode cX3_movesUntilMoved 10 = .ok (.iload_n 2, 1) := by decide +kernel
theorem dX3_movesUntilMoved_11 : decode cX3_movesUntilMoved 11 = .ok (.aload_n 0, 1) := by decide +kernel
theorem dX3_movesUntilMoved_12 : decode cX3_movesUntilMoved 12 = .ok (.getfield 34, 3) := by decide +kernel
theorem dX3_movesUntilMoved_15 : decode cX3_movesUntilMoved 15 = .ok (.if_icmp .ge 12, 3) := by decide +kernel
theorem dX3_movesUntilMoved_18 : decode cX3_movesUntilMoved 18 = .ok (.aload_n 0, 1) := by decide +kernel
theorem dX3_movesUntilMoved_19 : decode cX3_movesUntilMoved 19 = .ok (.getfield 34, 3) := by decide +kernel
theorem dX3_movesUntilMoved_22 : decode cX3_movesUntilMoved 22 = .ok (.iload_n 2, 1) := by decide +kernel
theorem dX3_movesUntilMoved_23 : decode cX3_movesUntilMoved 23 = .ok (.isub, 1) := by decide +kernel
theorem dX3_movesUntilMoved_24 : decode cX3_movesUntilMoved 24 = .ok (.goto 14, 3) := by decide +kernel
theorem dX3_movesUntilMoved_27 : decode cX3_movesUntilMoved 27 = .ok (.aload_n 0, 1) := by decide +kernel
theorem dX3_movesUntilMoved_28 : decode cX3_movesUntilMoved 28 = .ok (.getfield 34, 3) := by decide +kernel
theorem dX3_movesUntilMoved_31 : decode cX3_movesUntilMoved 31 = .ok (.aload_n 0, 1) := by decide +kernel
theorem dX3_movesUntilMoved_32 : decode cX3_movesUntilMoved 32 = .ok (.getfield 25, 3) := by decide +kernel
theorem dX3_movesUntilMoved_35 : decode cX3_movesUntilMoved 35 = .ok (.iadd, 1) := by decide +kernel
theorem dX3_movesUntilMoved_36 : decode cX3_movesUntilMoved 36 = .ok (.iload_n 2, 1) := by decide +kernel
theorem dX3_movesUntilMoved_37 : decode cX3_movesUntilMoved 37 = .ok (.isub, 1) := by decide +kernel
theorem dX3_movesUntilMoved_38 : decode cX3_movesUntilMoved 38 = .ok (.ireturn, 1) := by decide +kernel
set_option maxRecDepth 20000 in
theorem ggX3_placeAfterMoves_X3_hasLine : GoodIn wsX3_placeAfterMoves wsX3_hasLine := goodIn_r _ [8, 1, 14, 15, 16, 17, 18, 19, 20, 21, 22, 23, 24, 25, 26, 27, 28] (by decide +kernel) (by decide +kernel)
set_option maxRecDepth 20000 in
theorem gX3_placeAfterMoves_X3_hasLine : GoodIn wsX3_placeAfterMoves (wsV RX3 85 RX3 yX3_hasLine wsX3_hasLine) := goodIn_app (goodIn_of _ (by decide +kernel)) ggX3_placeAfterMoves_X3_hasLine
set_option maxRecDepth 20000 in
theorem ggX3_placeAfterMoves_X3_rankOf : GoodIn wsX3_placeAfterMoves wsX3_rankOf := goodIn_r _ [12, 1, 13, 14, 15, 16, 17, 18, 19, 20, 21, 22, 23, 24, 25, 26, 27, 28] (by decide +kernel) (by decide +kernel)
set_option maxRecDepth 20000 in
theorem gX3_placeAfterMoves_X3_rankOf : GoodIn wsX3_placeAfterMoves (wsV RX3 92 RX3 yX3_rankOf wsX3_rankOf) := goodIn_app (goodIn_of _ (by decide +kernel)) ggX3_placeAfterMoves_X3_rankOf
theorem dX3_placeAfterMoves_0 : decode cX3_placeAfterMoves 0 = .ok (.aload_n 0, 1) := by decide +kernel
theorem dX3_placeAfterMoves_1 : decode cX3_placeAfterMoves 1 = .ok (.iload_n 1, 1) := by decide +kernel
theorem dX3_placeAfterMoves_2 : decode cX3_placeAfterMoves 2 = .ok (.invokevirtual 85, 3) := by decide +kernel
theorem dX3_placeAfterMoves_5 : decode cX3_placeAfterMoves 5 = .ok (.ifCond .ne 5, 3) := by decide +kernel
theorem dX3_placeAfterMoves_8 : decode cX3_placeAfterMoves 8 = .ok (.iconst (-1), 1) := by decide +kernel
theorem dX3_placeAfterMoves_9 : decode cX3_placeAfterMoves 9 = .ok (.ireturn, 1) := by decide +kernel
theorem dX3_placeAfterMoves_10 : decode cX3_placeAfterMoves 10 = .ok (.aload_n 0, 1) := by decide +kernel
theorem dX3_placeAfterMoves_11 : decode cX3_placeAfterMoves 11 = .ok (.getfield 25, 3) := by decide +kernel
theorem dX3_placeAfterMoves_14 : decode cX3_placeAfterMoves 14 = .ok (.aload_n 0, 1) := by decide +kernel
theorem dX3_placeAfterMoves_15 : decode cX3_placeAfterMoves 15 = .ok (.getfield 34, 3) := by decide +kernel
theorem dX3_placeAfterMoves_18 : decode cX3_placeAfterMoves 18 = .ok (.isub, 1) := by decide +kernel
theorem dX3_placeAfterMoves_19 : decode cX3_placeAfterMoves 19 = .ok (.iload_n 2, 1) := by decide +kernel
theorem dX3_placeAfterMoves_20 : decode cX3_placeAfterMoves 20 = .ok (.iadd, 1) := by decide +kernel
theorem dX3_placeAfterMoves_21 : decode cX3_placeAfterMoves 21 = .ok (.istore_n 3, 1) := by decide +kernel
theorem dX3_placeAfterMoves_22 : decode cX3_placeAfterMoves 22 = .ok (.aload_n 0, 1) := by decide +kernel
theorem dX3_placeAfterMoves_23 : decode cX3_placeAfterMoves 23 = .ok (.getfield 25, 3) := by decide +kernel
theorem dX3_placeAfterMoves_26 : decode cX3_placeAfterMoves 26 = .ok (.iload_n 3, 1) := by decide +kernel
theorem dX3_placeAfterMoves_27 : decode cX3_placeAfterMoves 27 = .ok (.aload_n 0, 1) := by decide +kernel
theorem dX3_placeAfterMoves_28 : decode cX3_placeAfterMoves 28 = .ok (.getfield 25, 3) := by decide +kernel
theorem dX3_placeAfterMoves_31 : decode cX3_placeAfterMoves 31 = .ok (.iconst 1, 1) := by decide +kernel
theorem dX3_placeAfterMoves_32 : decode cX3_placeAfterMoves 32 = .ok (.iadd, 1) := by decide +kernel
theorem dX3_placeAfterMoves_33 : decode cX3_placeAfterMoves 33 = .ok (.irem, 1) := by decide +kernel
theorem dX3_placeAfterMoves_34 : decode cX3_placeAfterMoves 34 = .ok (.isub, 1) := by decide +kernel
theorem dX3_placeAfterMoves_35 : decode cX3_placeAfterMoves 35 = .ok (.istore 4, 2) := by decide +kernel
theorem dX3_placeAfterMoves_37 : decode cX3_placeAfterMoves 37 = .ok (.aload_n 0, 1) := by decide +kernel
theorem dX3_placeAfterMoves_38 : decode cX3_placeAfterMoves 38 = .ok (.getfield 31, 3) := by decide +kernel
theorem dX3_placeAfterMoves_41 : decode cX3_placeAfterMoves 41 = .ok (.iload_n 3, 1) := by decide +kernel
theorem dX3_placeAfterMoves_42 : decode cX3_placeAfterMoves 42 = .ok (.aload_n 0, 1) := by decide +kernel
theorem dX3_placeAfterMoves_43 : decode cX3_placeAfterMoves 43 = .ok (.getfield 25, 3) := by decide +kernel
theorem dX3_placeAfterMoves_46 : decode cX3_placeAfterMoves 46 = .ok (.iconst 1, 1) := by decide +kernel
theorem dX3_placeAfterMoves_47 : decode cX3_placeAfterMoves 47 = .ok (.iadd, 1) := by decide +kernel
theorem dX3_placeAfterMoves_48 : decode cX3_placeAfterMoves 48 = .ok (.idiv, 1) := by decide +kernel
theorem dX3_placeAfterMoves_49 : decode cX3_placeAfterMoves 49 = .ok (.iadd, 1) := by decide +kernel
theorem dX3_placeAfterMoves_50 : decode cX3_placeAfterMoves 50 = .ok (.aload_n 0, 1) := by decide +kernel
theorem dX3_placeAfterMoves_51 : decode cX3_placeAfterMoves 51 = .ok (.getfield 25, 3) := by decide +kernel
theorem dX3_placeAfterMoves_54 : decode cX3_placeAfterMoves 54 = .ok (.irem, 1) := by decide +kernel
theorem dX3_placeAfterMoves_55 : decode cX3_placeAfterMoves 55 = .ok (.istore 5, 2) := by decide +kernel
theorem dX3_placeAfterMoves_57 : decode cX3_placeAfterMoves 57 = .ok (.aload_n 0, 1) := by decide +kernel
theorem dX3_placeAfterMoves_58 : decode cX3_placeAfterMoves 58 = .ok (.iload_n 1, 1) := by decide +kernel
theorem dX3_placeAfterMoves_59 : decode cX3_placeAfterMoves 59 = .ok (.iload 5, 2) := by decide +kernel
theorem dX3_placeAfterMoves_61 : decode cX3_placeAfterMoves 61 = .ok (.invokevirtual 92, 3) := by decide +kernel
theorem dX3_placeAfterMoves_64 : decode cX3_placeAfterMoves 64 = .ok (.istore 6, 2) := by decide +kernel
theorem dX3_placeAfterMoves_66 : decode cX3_placeAfterMoves 66 = .ok (.iload 6, 2) := by decide +kernel
theorem dX3_placeAfterMoves_68 : decode cX3_placeAfterMoves 68 = .ok (.iload 4, 2) := by decide +kernel
theorem dX3_placeAfterMoves_70 : decode cX3_placeAfterMoves 70 = .ok (.if_icmp .ge 8, 3) := by decide +kernel
theorem dX3_placeAfterMoves_73 : decode cX3_placeAfterMoves 73 = .ok (.iload 6, 2) := by decide +kernel
theorem dX3_placeAfterMoves_75 : decode cX3_placeAfterMoves 75 = .ok (.goto 7, 3) := by decide +kernel
theorem dX3_placeAfterMoves_78 : decode cX3_placeAfterMoves 78 = .ok (.iload 6, 2) := by decide +kernel
theorem dX3_placeAfterMoves_80 : decode cX3_placeAfterMoves 80 = .ok (.iconst 1, 1) := by decide +kernel
theorem dX3_placeAfterMoves_81 : decode cX3_placeAfterMoves 81 = .ok (.iadd, 1) := by decide +kernel
theorem dX3_placeAfterMoves_82 : decode cX3_placeAfterMoves 82 = .ok (.ireturn, 1) := by decide +kernel
set_option maxRecDepth 20000 in
theorem ggX3_writeLine_X3_hasLine : GoodIn wsX3_writeLine wsX3_hasLine := goodIn_r _ [10, 11, 37, 38, 39, 40, 41, 42, 43, 44, 45, 46, 47, 48, 49, 50, 51] (by decide +kernel) (by decide +kernel)
set_option maxRecDepth 20000 in
theorem gX3_writeLine_X3_hasLine : GoodIn wsX3_writeLine (wsV RX3 85 RX3 yX3_hasLine wsX3_hasLine) := goodIn_app (goodIn_of _ (by decide +kernel)) ggX3_writeLine_X3_hasLine
set_option maxRecDepth 20000 in
theorem ggX3_writeLine_X3_placeOf : GoodIn wsX3_writeLine wsX3_placeOf := goodIn_r _ [15, 16, 17, 18, 19, 20, 9, 21, 11, 22, 37, 38, 39, 40, 41, 42, 43, 44, 45, 46, 47, 48, 49, 50, 51] (by decide +kernel) (by decide +kernel)
set_option maxRecDepth 20000 in
theorem gX3_writeLine_X3_placeOf : GoodIn wsX3_writeLine (wsV RX3 95 RX3 yX3_placeOf wsX3_placeOf) := goodIn_app (goodIn_of _ (by decide +kernel)) ggX3_writeLine_X3_placeOf
set_option maxRecDepth 20000 in
theorem ggX3_writeLine_X3_layAt : GoodIn wsX3_writeLine wsX3_layAt := goodIn_r _ [26, 11, 27, 28, 29, 30, 4, 31, 37, 38, 39, 40, 41, 42, 43, 44, 45, 46, 47, 48, 49, 50, 51] (by decide +kernel) (by decide +kernel)
set_option maxRecDepth 20000 in
theorem gX3_writeLine_X3_layAt : GoodIn wsX3_writeLine (wsV RX3 99 RX3 yX3_layAt wsX3_layAt) := goodIn_app (goodIn_of _ (by decide +kernel)) ggX3_writeLine_X3_layAt
set_option maxRecDepth 20000 in
theorem ggX3_writeLine_X3_moveGap : GoodIn wsX3_writeLine wsX3_moveGap := goodIn_r _ [35, 17, 11, 16, 36, 3, 23, 24, 25, 9, 26, 27, 28, 29, 30, 4, 31, 37, 38, 39, 40, 41, 42, 43, 44, 45, 46, 47, 48, 49, 50, 51] (by decide +kernel) (by decide +kernel)
set_option maxRecDepth 20000 in
theorem gX3_writeLine_X3_moveGap : GoodIn wsX3_writeLine (wsV RX3 103 RX3 yX3_moveGap wsX3_moveGap) := goodIn_app (goodIn_of _ (by decide +kernel)) ggX3_writeLine_X3_moveGap
theorem dX3_writeLine_0 : decode cX3_writeLine 0 = .ok (.aload_n 0, 1) := by decide +kernel
theorem dX3_writeLine_1 : decode cX3_writeLine 1 = .ok (.iload_n 1, 1) := by decide +kernel
theorem dX3_writeLine_2 : decode cX3_writeLine 2 = .ok (.invokevirtual 85, 3) := by decide +kernel
theorem dX3_writeLine_5 : decode cX3_writeLine 5 = .ok (.ifCond .ne 5, 3) := by decide +kernel
theorem dX3_writeLine_8 : decode cX3_writeLine 8 = .ok (.iconst (-1), 1) := by decide +kernel
theorem dX3_writeLine_9 : decode cX3_writeLine 9 = .ok (.ireturn, 1) := by decide +kernel
theorem dX3_writeLine_10 : decode cX3_writeLine 10 = .ok (.aload_n 0, 1) := by decide +kernel
theorem dX3_writeLine_11 : decode cX3_writeLine 11 = .ok (.getfield 18, 3) := by decide +kernel
theorem dX3_writeLine_14 : decode cX3_writeLine 14 = .ok (.iload_n 1, 1) := by decide +kernel
theorem dX3_writeLine_15 : decode cX3_writeLine 15 = .ok (.iaload, 1) := by decide +kernel
theorem dX3_writeLine_16 : decode cX3_writeLine 16 = .ok (.istore_n 3, 1) := by decide +kernel
theorem dX3_writeLine_17 : decode cX3_writeLine 17 = .ok (.aload_n 0, 1) := by decide +kernel
theorem dX3_writeLine_18 : decode cX3_writeLine 18 = .ok (.getfield 18, 3) := by decide +kernel
theorem dX3_writeLine_21 : decode cX3_writeLine 21 = .ok (.iload_n 1, 1) := by decide +kernel
theorem dX3_writeLine_22 : decode cX3_writeLine 22 = .ok (.iload_n 2, 1) := by decide +kernel
theorem dX3_writeLine_23 : decode cX3_writeLine 23 = .ok (.iastore, 1) := by decide +kernel
theorem dX3_writeLine_24 : decode cX3_writeLine 24 = .ok (.aload_n 0, 1) := by decide +kernel
theorem dX3_writeLine_25 : decode cX3_writeLine 25 = .ok (.aload_n 0, 1) := by decide +kernel
theorem dX3_writeLine_26 : decode cX3_writeLine 26 = .ok (.iload_n 1, 1) := by decide +kernel
theorem dX3_writeLine_27 : decode cX3_writeLine 27 = .ok (.invokevirtual 95, 3) := by decide +kernel
theorem dX3_writeLine_30 : decode cX3_writeLine 30 = .ok (.invokevirtual 99, 3) := by decide +kernel
theorem dX3_writeLine_33 : decode cX3_writeLine 33 = .ok (.aload_n 0, 1) := by decide +kernel
theorem dX3_writeLine_34 : decode cX3_writeLine 34 = .ok (.dup, 1) := by decide +kernel
theorem dX3_writeLine_35 : decode cX3_writeLine 35 = .ok (.getfield 40, 3) := by decide +kernel
theorem dX3_writeLine_38 : decode cX3_writeLine 38 = .ok (.iconst 1, 1) := by decide +kernel
theorem dX3_writeLine_39 : decode cX3_writeLine 39 = .ok (.iadd, 1) := by decide +kernel
theorem dX3_writeLine_40 : decode cX3_writeLine 40 = .ok (.putfield 40, 3) := by decide +kernel
theorem dX3_writeLine_43 : decode cX3_writeLine 43 = .ok (.aload_n 0, 1) := by decide +kernel
theorem dX3_writeLine_44 : decode cX3_writeLine 44 = .ok (.dup, 1) := by decide +kernel
theorem dX3_writeLine_45 : decode cX3_writeLine 45 = .ok (.getfield 46, 3) := by decide +kernel
theorem dX3_writeLine_48 : decode cX3_writeLine 48 = .ok (.iconst 1, 1) := by decide +kernel
theorem dX3_writeLine_49 : decode cX3_writeLine 49 = .ok (.iadd, 1) := by decide +kernel
theorem dX3_writeLine_50 : decode cX3_writeLine 50 = .ok (.putfield 46, 3) := by decide +kernel
theorem dX3_writeLine_53 : decode cX3_writeLine 53 = .ok (.aload_n 0, 1) := by decide +kernel
theorem dX3_writeLine_54 : decode cX3_writeLine 54 = .ok (.getfield 55, 3) := by decide +kernel
theorem dX3_writeLine_57 : decode cX3_writeLine 57 = .ok (.ifCond .ne 18, 3) := by decide +kernel
theorem dX3_writeLine_60 : decode cX3_writeLine 60 = .ok (.aload_n 0, 1) := by decide +kernel
theorem dX3_writeLine_61 : decode cX3_writeLine 61 = .ok (.getfield 46, 3) := by decide +kernel
theorem dX3_writeLine_64 : decode cX3_writeLine 64 = .ok (.aload_n 0, 1) := by decide +kernel
theorem dX3_writeLine_65 : decode cX3_writeLine 65 = .ok (.getfield 15, 3) := by decide +kernel
theorem dX3_writeLine_68 : decode cX3_writeLine 68 = .ok (.if_icmp .lt 7, 3) := by decide +kernel
theorem dX3_writeLine_71 : decode cX3_writeLine 71 = .ok (.aload_n 0, 1) := by decide +kernel
theorem dX3_writeLine_72 : decode cX3_writeLine 72 = .ok (.invokevirtual 103, 3) := by decide +kernel
theorem dX3_writeLine_75 : decode cX3_writeLine 75 = .ok (.iload_n 3, 1) := by decide +kernel
theorem dX3_writeLine_76 : decode cX3_writeLine 76 = .ok (.ireturn, 1) := by decide +kernel
set_option maxRecDepth 20000 in
theorem ggX3_moveGap_X3_layAt : GoodIn wsX3_moveGap wsX3_layAt := goodIn_r _ [10, 2, 11, 12, 13, 14, 15, 16, 17, 18, 19, 20, 21, 22, 23, 24, 25, 26, 27, 28, 29, 30, 31] (by decide +kernel) (by decide +kernel)
set_option maxRecDepth 20000 in
theorem gX3_moveGap_X3_layAt : GoodIn wsX3_moveGap (wsV RX3 99 RX3 yX3_layAt wsX3_layAt) := goodIn_app (goodIn_of _ (by decide +kernel)) ggX3_moveGap_X3_layAt
theorem dX3_moveGap_0 : decode cX3_moveGap 0 = .ok (.aload_n 0, 1) := by decide +kernel
theorem dX3_moveGap_1 : decode cX3_moveGap 1 = .ok (.aload_n 0, 1) := by decide +kernel
theorem dX3_moveGap_2 : decode cX3_moveGap 2 = .ok (.getfield 34, 3) := by decide +kernel
theorem dX3_moveGap_5 : decode cX3_moveGap 5 = .ok (.invokevirtual 99, 3) := by decide +kernel
theorem dX3_moveGap_8 : decode cX3_moveGap 8 = .ok (.aload_n 0, 1) := by decide +kernel
theorem dX3_moveGap_9 : decode cX3_moveGap 9 = .ok (.getfield 34, 3) := by decide +kernel
theorem dX3_moveGap_12 : decode cX3_moveGap 12 = .ok (.ifCond .le 16, 3) := by decide +kernel
theorem dX3_moveGap_15 : decode cX3_moveGap 15 = .ok (.aload_n 0, 1) := by decide +kernel
theorem dX3_moveGap_16 : decode cX3_moveGap 16 = .ok (.dup, 1) := by decide +kernel
theorem dX3_moveGap_17 : decode cX3_moveGap 17 = .ok (.getfield 34, 3) := by decide +kernel
theorem dX3_moveGap_20 : decode cX3_moveGap 20 = .ok (.iconst 1, 1) := by decide +kernel
theorem dX3_moveGap_21 : decode cX3_moveGap 21 = .ok (.isub, 1) := by decide +kernel
theorem dX3_moveGap_22 : decode cX3_moveGap 22 = .ok (.putfield 34, 3) := by decide +kernel
theorem dX3_moveGap_25 : decode cX3_moveGap 25 = .ok (.goto 38, 3) := by decide +kernel
theorem dX3_moveGap_28 : decode cX3_moveGap 28 = .ok (.aload_n 0, 1) := by decide +kernel
theorem dX3_moveGap_29 : decode cX3_moveGap 29 = .ok (.aload_n 0, 1) := by decide +kernel
theorem dX3_moveGap_30 : decode cX3_moveGap 30 = .ok (.getfield 25, 3) := by decide +kernel
theorem dX3_moveGap_33 : decode cX3_moveGap 33 = .ok (.putfield 34, 3) := by decide +kernel
theorem dX3_moveGap_36 : decode cX3_moveGap 36 = .ok (.aload_n 0, 1) := by decide +kernel
theorem dX3_moveGap_37 : decode cX3_moveGap 37 = .ok (.aload_n 0, 1) := by decide +kernel
theorem dX3_moveGap_38 : decode cX3_moveGap 38 = .ok (.getfield 31, 3) := by decide +kernel
theorem dX3_moveGap_41 : decode cX3_moveGap 41 = .ok (.iconst 1, 1) := by decide +kernel
theorem dX3_moveGap_42 : decode cX3_moveGap 42 = .ok (.iadd, 1) := by decide +kernel
theorem dX3_moveGap_43 : decode cX3_moveGap 43 = .ok (.aload_n 0, 1) := by decide +kernel
theorem dX3_moveGap_44 : decode cX3_moveGap 44 = .ok (.getfield 25, 3) := by decide +kernel
theorem dX3_moveGap_47 : decode cX3_moveGap 47 = .ok (.if_icmp .ge 12, 3) := by decide +kernel
theorem dX3_moveGap_50 : decode cX3_moveGap 50 = .ok (.aload_n 0, 1) := by decide +kernel
theorem dX3_moveGap_51 : decode cX3_moveGap 51 = .ok (.getfield 31, 3) := by decide +kernel
theorem dX3_moveGap_54 : decode cX3_moveGap 54 = .ok (.iconst 1, 1) := by decide +kernel
theorem dX3_moveGap_55 : decode cX3_moveGap 55 = .ok (.iadd, 1) := by decide +kernel
theorem dX3_moveGap_56 : decode cX3_moveGap 56 = .ok (.goto 4, 3) := by decide +kernel
theorem dX3_moveGap_59 : decode cX3_moveGap 59 = .ok (.iconst 0, 1) := by decide +kernel
theorem dX3_moveGap_60 : decode cX3_moveGap 60 = .ok (.putfield 31, 3) := by decide +kernel
theorem dX3_moveGap_63 : decode cX3_moveGap 63 = .ok (.aload_n 0, 1) := by decide +kernel
theorem dX3_moveGap_64 : decode cX3_moveGap 64 = .ok (.dup, 1) := by decide +kernel
theorem dX3_moveGap_65 : decode cX3_moveGap 65 = .ok (.getfield 43, 3) := by decide +kernel
theorem dX3_moveGap_68 : decode cX3_moveGap 68 = .ok (.iconst 1, 1) := by decide +kernel
theorem dX3_moveGap_69 : decode cX3_moveGap 69 = .ok (.iadd, 1) := by decide +kernel
theorem dX3_moveGap_70 : decode cX3_moveGap 70 = .ok (.putfield 43, 3) := by decide +kernel
theorem dX3_moveGap_73 : decode cX3_moveGap 73 = .ok (.aload_n 0, 1) := by decide +kernel
theorem dX3_moveGap_74 : decode cX3_moveGap 74 = .ok (.iconst 0, 1) := by decide +kernel
theorem dX3_moveGap_75 : decode cX3_moveGap 75 = .ok (.putfield 46, 3) := by decide +kernel
theorem dX3_moveGap_78 : decode cX3_moveGap 78 = .ok (.return_, 1) := by decide +kernel
theorem dX3_layAt_0 : decode cX3_layAt 0 = .ok (.iload_n 1, 1) := by decide +kernel
theorem dX3_layAt_1 : decode cX3_layAt 1 = .ok (.ifCond .lt 11, 3) := by decide +kernel
theorem dX3_layAt_4 : decode cX3_layAt 4 = .ok (.iload_n 1, 1) := by decide +kernel
theorem dX3_layAt_5 : decode cX3_layAt 5 = .ok (.aload_n 0, 1) := by decide +kernel
theorem dX3_layAt_6 : decode cX3_layAt 6 = .ok (.getfield 25, 3) := by decide +kernel
theorem dX3_layAt_9 : decode cX3_layAt 9 = .ok (.if_icmp .le 4, 3) := by decide +kernel
theorem dX3_layAt_12 : decode cX3_layAt 12 = .ok (.return_, 1) := by decide +kernel
theorem dX3_layAt_13 : decode cX3_layAt 13 = .ok (.aload_n 0, 1) := by decide +kernel
theorem dX3_layAt_14 : decode cX3_layAt 14 = .ok (.getfield 22, 3) := by decide +kernel
theorem dX3_layAt_17 : decode cX3_layAt 17 = .ok (.iload_n 1, 1) := by decide +kernel
theorem dX3_layAt_18 : decode cX3_layAt 18 = .ok (.dup2, 1) := by decide +kernel
theorem dX3_layAt_19 : decode cX3_layAt 19 = .ok (.iaload, 1) := by decide +kernel
theorem dX3_layAt_20 : decode cX3_layAt 20 = .ok (.iconst 1, 1) := by decide +kernel
theorem dX3_layAt_21 : decode cX3_layAt 21 = .ok (.iadd, 1) := by decide +kernel
theorem dX3_layAt_22 : decode cX3_layAt 22 = .ok (.iastore, 1) := by decide +kernel
theorem dX3_layAt_23 : decode cX3_layAt 23 = .ok (.aload_n 0, 1) := by decide +kernel
theorem dX3_layAt_24 : decode cX3_layAt 24 = .ok (.dup, 1) := by decide +kernel
theorem dX3_layAt_25 : decode cX3_layAt 25 = .ok (.getfield 52, 3) := by decide +kernel
theorem dX3_layAt_28 : decode cX3_layAt 28 = .ok (.iconst 1, 1) := by decide +kernel
theorem dX3_layAt_29 : decode cX3_layAt 29 = .ok (.iadd, 1) := by decide +kernel
theorem dX3_layAt_30 : decode cX3_layAt 30 = .ok (.putfield 52, 3) := by decide +kernel
theorem dX3_layAt_33 : decode cX3_layAt 33 = .ok (.aload_n 0, 1) := by decide +kernel
theorem dX3_layAt_34 : decode cX3_layAt 34 = .ok (.getfield 22, 3) := by decide +kernel
theorem dX3_layAt_37 : decode cX3_layAt 37 = .ok (.iload_n 1, 1) := by decide +kernel
theorem dX3_layAt_38 : decode cX3_layAt 38 = .ok (.iaload, 1) := by decide +kernel
theorem dX3_layAt_39 : decode cX3_layAt 39 = .ok (.aload_n 0, 1) := by decide +kernel
theorem dX3_layAt_40 : decode cX3_layAt 40 = .ok (.getfield 9, 3) := by decide +kernel
theorem dX3_layAt_43 : decode cX3_layAt 43 = .ok (.if_icmp .ge 4, 3) := by decide +kernel
theorem dX3_layAt_46 : decode cX3_layAt 46 = .ok (.return_, 1) := by decide +kernel
theorem dX3_layAt_47 : decode cX3_layAt 47 = .ok (.aload_n 0, 1) := by decide +kernel
theorem dX3_layAt_48 : decode cX3_layAt 48 = .ok (.getfield 37, 3) := by decide +kernel
theorem dX3_layAt_51 : decode cX3_layAt 51 = .ok (.ifCond .ne 9, 3) := by decide +kernel
theorem dX3_layAt_54 : decode cX3_layAt 54 = .ok (.aload_n 0, 1) := by decide +kernel
theorem dX3_layAt_55 : decode cX3_layAt 55 = .ok (.iconst 1, 1) := by decide +kernel
theorem dX3_layAt_56 : decode cX3_layAt 56 = .ok (.putfield 55, 3) := by decide +kernel
theorem dX3_layAt_59 : decode cX3_layAt 59 = .ok (.return_, 1) := by decide +kernel
theorem dX3_layAt_60 : decode cX3_layAt 60 = .ok (.aload_n 0, 1) := by decide +kernel
theorem dX3_layAt_61 : decode cX3_layAt 61 = .ok (.dup, 1) := by decide +kernel
theorem dX3_layAt_62 : decode cX3_layAt 62 = .ok (.getfield 37, 3) := by decide +kernel
theorem dX3_layAt_65 : decode cX3_layAt 65 = .ok (.iconst 1, 1) := by decide +kernel
theorem dX3_layAt_66 : decode cX3_layAt 66 = .ok (.isub, 1) := by decide +kernel
theorem dX3_layAt_67 : decode cX3_layAt 67 = .ok (.putfield 37, 3) := by decide +kernel
theorem dX3_layAt_70 : decode cX3_layAt 70 = .ok (.aload_n 0, 1) := by decide +kernel
theorem dX3_layAt_71 : decode cX3_layAt 71 = .ok (.dup, 1) := by decide +kernel
theorem dX3_layAt_72 : decode cX3_layAt 72 = .ok (.getfield 49, 3) := by decide +kernel
theorem dX3_layAt_75 : decode cX3_layAt 75 = .ok (.iconst 1, 1) := by decide +kernel
theorem dX3_layAt_76 : decode cX3_layAt 76 = .ok (.iadd, 1) := by decide +kernel
theorem dX3_layAt_77 : decode cX3_layAt 77 = .ok (.putfield 49, 3) := by decide +kernel
theorem dX3_layAt_80 : decode cX3_layAt 80 = .ok (.aload_n 0, 1) := by decide +kernel
theorem dX3_layAt_81 : decode cX3_layAt 81 = .ok (.getfield 22, 3) := by decide +kernel
theorem dX3_layAt_84 : decode cX3_layAt 84 = .ok (.iload_n 1, 1) := by decide +kernel
theorem dX3_layAt_85 : decode cX3_layAt 85 = .ok (.iconst 1, 1) := by decide +kernel
theorem dX3_layAt_86 : decode cX3_layAt 86 = .ok (.iastore, 1) := by decide +kernel
theorem dX3_layAt_87 : decode cX3_layAt 87 = .ok (.aload_n 0, 1) := by decide +kernel
theorem dX3_layAt_88 : decode cX3_layAt 88 = .ok (.dup, 1) := by decide +kernel
theorem dX3_layAt_89 : decode cX3_layAt 89 = .ok (.getfield 52, 3) := by decide +kernel
theorem dX3_layAt_92 : decode cX3_layAt 92 = .ok (.iconst 1, 1) := by decide +kernel
theorem dX3_layAt_93 : decode cX3_layAt 93 = .ok (.iadd, 1) := by decide +kernel
theorem dX3_layAt_94 : decode cX3_layAt 94 = .ok (.putfield 52, 3) := by decide +kernel
theorem dX3_layAt_97 : decode cX3_layAt 97 = .ok (.return_, 1) := by decide +kernel
set_option maxRecDepth 20000 in
theorem ggX3_hammerLine_X3_valueOf : GoodIn wsX3_hammerLine wsX3_valueOf := goodIn_r _ [6, 7, 8, 9, 10, 5, 11, 12, 45, 46, 47, 48, 49, 50, 51, 52, 53, 54, 55, 56, 57, 58, 59] (by decide +kernel) (by decide +kernel)
set_option maxRecDepth 20000 in
theorem gX3_hammerLine_X3_valueOf : GoodIn wsX3_hammerLine (wsV RX3 106 RX3 yX3_valueOf wsX3_valueOf) := goodIn_app (goodIn_of _ (by decide +kernel)) ggX3_hammerLine_X3_valueOf
set_option maxRecDepth 20000 in
theorem ggX3_hammerLine_X3_writeLine : GoodIn wsX3_hammerLine wsX3_writeLine := goodIn_r _ [16, 7, 17, 18, 1, 19, 8, 9, 10, 5, 11, 12, 20, 21, 22, 23, 24, 25, 26, 27, 28, 29, 30, 31, 32, 33, 34, 35, 36, 37, 38, 39, 40, 41, 42, 43, 44, 45, 46, 47, 48, 49, 50, 51, 52, 53, 54, 55, 56, 57, 58, 59] (by decide +kernel) (by decide +kernel)
set_option maxRecDepth 20000 in
theorem gX3_hammerLine_X3_writeLine : GoodIn wsX3_hammerLine (wsV RX3 109 RX3 yX3_writeLine wsX3_writeLine) := goodIn_app (goodIn_of _ (by decide +kernel)) ggX3_hammerLine_X3_writeLine
theorem dX3_hammerLine_0 : decode cX3_hammerLine 0 = .ok (.iconst 0, 1) := by decide +kernel
theorem dX3_hammerLine_1 : decode cX3_hammerLine 1 = .ok (.istore_n 3, 1) := by decide +kernel
theorem dX3_hammerLine_2 : decode cX3_hammerLine 2 = .ok (.iload_n 3, 1) := by decide +kernel
theorem dX3_hammerLine_3 : decode cX3_hammerLine 3 = .ok (.iload_n 2, 1) := by decide +kernel
theorem dX3_hammerLine_4 : decode cX3_hammerLine 4 = .ok (.if_icmp .ge 27, 3) := by decide +kernel
theorem dX3_hammerLine_7 : decode cX3_hammerLine 7 = .ok (.aload_n 0, 1) := by decide +kernel
theorem dX3_hammerLine_8 : decode cX3_hammerLine 8 = .ok (.getfield 55, 3) := by decide +kernel
theorem dX3_hammerLine_11 : decode cX3_hammerLine 11 = .ok (.ifCond .ne 20, 3) := by decide +kernel
theorem dX3_hammerLine_14 : decode cX3_hammerLine 14 = .ok (.aload_n 0, 1) := by decide +kernel
theorem dX3_hammerLine_15 : decode cX3_hammerLine 15 = .ok (.iload_n 1, 1) := by decide +kernel
theorem dX3_hammerLine_16 : decode cX3_hammerLine 16 = .ok (.aload_n 0, 1) := by decide +kernel
theorem dX3_hammerLine_17 : decode cX3_hammerLine 17 = .ok (.iload_n 1, 1) := by decide +kernel
theorem dX3_hammerLine_18 : decode cX3_hammerLine 18 = .ok (.invokevirtual 106, 3) := by decide +kernel
theorem dX3_hammerLine_21 : decode cX3_hammerLine 21 = .ok (.invokevirtual 109, 3) := by decide +kernel
theorem dX3_hammerLine_24 : decode cX3_hammerLine 24 = .ok (.pop, 1) := by decide +kernel
theorem dX3_hammerLine_25 : decode cX3_hammerLine 25 = .ok (.iinc 3 1, 3) := by decide +kernel
theorem dX3_hammerLine_28 : decode cX3_hammerLine 28 = .ok (.goto (-26), 3) := by decide +kernel
theorem dX3_hammerLine_31 : decode cX3_hammerLine 31 = .ok (.iload_n 3, 1) := by decide +kernel
theorem dX3_hammerLine_32 : decode cX3_hammerLine 32 = .ok (.ireturn, 1) := by decide +kernel
set_option maxRecDepth 20000 in
theorem ggX3_writeInTurn_X3_valueOf : GoodIn wsX3_writeInTurn wsX3_valueOf := goodIn_r _ [7, 8, 9, 10, 11, 6, 12, 2, 45, 46, 47, 48, 49, 50, 51, 52, 53, 54, 55, 56, 57, 58, 59] (by decide +kernel) (by decide +kernel)
set_option maxRecDepth 20000 in
theorem gX3_writeInTurn_X3_valueOf : GoodIn wsX3_writeInTurn (wsV RX3 106 RX3 yX3_valueOf wsX3_valueOf) := goodIn_app (goodIn_of _ (by decide +kernel)) ggX3_writeInTurn_X3_valueOf
set_option maxRecDepth 20000 in
theorem ggX3_writeInTurn_X3_writeLine : GoodIn wsX3_writeInTurn wsX3_writeLine := goodIn_r _ [16, 8, 17, 18, 1, 19, 9, 10, 11, 6, 12, 2, 20, 21, 22, 23, 24, 25, 26, 27, 28, 29, 30, 31, 32, 33, 34, 35, 36, 37, 38, 39, 40, 41, 42, 43, 44, 45, 46, 47, 48, 49, 50, 51, 52, 53, 54, 55, 56, 57, 58, 59] (by decide +kernel) (by decide +kernel)
set_option maxRecDepth 20000 in
theorem gX3_writeInTurn_X3_writeLine : GoodIn wsX3_writeInTurn (wsV RX3 109 RX3 yX3_writeLine wsX3_writeLine) := goodIn_app (goodIn_of _ (by decide +kernel)) ggX3_writeInTurn_X3_writeLine
theorem dX3_writeInTurn_0 : decode cX3_writeInTurn 0 = .ok (.iconst 0, 1) := by decide +kernel
theorem dX3_writeInTurn_1 : decode cX3_writeInTurn 1 = .ok (.istore_n 2, 1) := by decide +kernel
theorem dX3_writeInTurn_2 : decode cX3_writeInTurn 2 = .ok (.iconst 0, 1) := by decide +kernel
theorem dX3_writeInTurn_3 : decode cX3_writeInTurn 3 = .ok (.istore_n 3, 1) := by decide +kernel
theorem dX3_writeInTurn_4 : decode cX3_writeInTurn 4 = .ok (.iload_n 2, 1) := by decide +kernel
theorem dX3_writeInTurn_5 : decode cX3_writeInTurn 5 = .ok (.iload_n 1, 1) := by decide +kernel
theorem dX3_writeInTurn_6 : decode cX3_writeInTurn 6 = .ok (.if_icmp .ge 45, 3) := by decide +kernel
theorem dX3_writeInTurn_9 : decode cX3_writeInTurn 9 = .ok (.aload_n 0, 1) := by decide +kernel
theorem dX3_writeInTurn_10 : decode cX3_writeInTurn 10 = .ok (.getfield 55, 3) := by decide +kernel
theorem dX3_writeInTurn_13 : decode cX3_writeInTurn 13 = .ok (.ifCond .ne 38, 3) := by decide +kernel
theorem dX3_writeInTurn_16 : decode cX3_writeInTurn 16 = .ok (.aload_n 0, 1) := by decide +kernel
theorem dX3_writeInTurn_17 : decode cX3_writeInTurn 17 = .ok (.iload_n 3, 1) := by decide +kernel
theorem dX3_writeInTurn_18 : decode cX3_writeInTurn 18 = .ok (.aload_n 0, 1) := by decide +kernel
theorem dX3_writeInTurn_19 : decode cX3_writeInTurn 19 = .ok (.iload_n 3, 1) := by decide +kernel
theorem dX3_writeInTurn_20 : decode cX3_writeInTurn 20 = .ok (.invokevirtual 106, 3) := by decide +kernel
theorem dX3_writeInTurn_23 : decode cX3_writeInTurn 23 = .ok (.invokevirtual 109, 3) := by decide +kernel
theorem dX3_writeInTurn_26 : decode cX3_writeInTurn 26 = .ok (.pop, 1) := by decide +kernel
theorem dX3_writeInTurn_27 : decode cX3_writeInTurn 27 = .ok (.iinc 2 1, 3) := by decide +kernel
theorem dX3_writeInTurn_30 : decode cX3_writeInTurn 30 = .ok (.iload_n 3, 1) := by decide +kernel
theorem dX3_writeInTurn_31 : decode cX3_writeInTurn 31 = .ok (.iconst 1, 1) := by decide +kernel
theorem dX3_writeInTurn_32 : decode cX3_writeInTurn 32 = .ok (.iadd, 1) := by decide +kernel
theorem dX3_writeInTurn_33 : decode cX3_writeInTurn 33 = .ok (.aload_n 0, 1) := by decide +kernel
theorem dX3_writeInTurn_34 : decode cX3_writeInTurn 34 = .ok (.getfield 25, 3) := by decide +kernel
theorem dX3_writeInTurn_37 : decode cX3_writeInTurn 37 = .ok (.if_icmp .ge 9, 3) := by decide +kernel
theorem dX3_writeInTurn_40 : decode cX3_writeInTurn 40 = .ok (.iload_n 3, 1) := by decide +kernel
theorem dX3_writeInTurn_41 : decode cX3_writeInTurn 41 = .ok (.iconst 1, 1) := by decide +kernel
theorem dX3_writeInTurn_42 : decode cX3_writeInTurn 42 = .ok (.iadd, 1) := by decide +kernel
theorem dX3_writeInTurn_43 : decode cX3_writeInTurn 43 = .ok (.goto 4, 3) := by decide +kernel
theorem dX3_writeInTurn_46 : decode cX3_writeInTurn 46 = .ok (.iconst 0, 1) := by decide +kernel
theorem dX3_writeInTurn_47 : decode cX3_writeInTurn 47 = .ok (.istore_n 3, 1) := by decide +kernel
theorem dX3_writeInTurn_48 : decode cX3_writeInTurn 48 = .ok (.goto (-44), 3) := by decide +kernel
theorem dX3_writeInTurn_51 : decode cX3_writeInTurn 51 = .ok (.iload_n 2, 1) := by decide +kernel
theorem dX3_writeInTurn_52 : decode cX3_writeInTurn 52 = .ok (.ireturn, 1) := by decide +kernel
set_option maxRecDepth 20000 in
theorem ggX3_writeByChance_X3_exists : GoodIn wsX3_writeByChance wsX3_exists := goodIn_r _ [9, 3, 47, 48, 49, 50, 51, 52, 53, 54, 55, 56, 57, 58, 59, 60, 61] (by decide +kernel) (by decide +kernel)
set_option maxRecDepth 20000 in
theorem gX3_writeByChance_X3_exists : GoodIn wsX3_writeByChance (wsV RX3 112 RX3 yX3_exists wsX3_exists) := goodIn_app (goodIn_of _ (by decide +kernel)) ggX3_writeByChance_X3_exists
set_option maxRecDepth 20000 in
theorem ggX3_writeByChance_X3_writeLine : GoodIn wsX3_writeByChance wsX3_writeLine := goodIn_r _ [13, 14, 15, 16, 4, 17, 18, 19, 20, 8, 21, 3, 22, 23, 24, 25, 26, 27, 28, 29, 30, 31, 32, 33, 34, 35, 36, 37, 38, 39, 40, 41, 42, 43, 44, 45, 46, 47, 48, 49, 50, 51, 52, 53, 54, 55, 56, 57, 58, 59, 60, 61] (by decide +kernel) (by decide +kernel)
set_option maxRecDepth 20000 in
theorem gX3_writeByChance_X3_writeLine : GoodIn wsX3_writeByChance (wsV RX3 109 RX3 yX3_writeLine wsX3_writeLine) := goodIn_app (goodIn_of _ (by decide +kernel)) ggX3_writeByChance_X3_writeLine
theorem dX3_writeByChance_0 : decode cX3_writeByChance 0 = .ok (.aload_n 0, 1) := by decide +kernel
theorem dX3_writeByChance_1 : decode cX3_writeByChance 1 = .ok (.invokevirtual 112, 3) := by decide +kernel
theorem dX3_writeByChance_4 : decode cX3_writeByChance 4 = .ok (.ifCond .ne 4, 3) := by decide +kernel
theorem dX3_writeByChance_7 : decode cX3_writeByChance 7 = .ok (.return_, 1) := by decide +kernel
theorem dX3_writeByChance_8 : decode cX3_writeByChance 8 = .ok (.lload_n 1, 1) := by decide +kernel
theorem dX3_writeByChance_9 : decode cX3_writeByChance 9 = .ok (.lstore 4, 2) := by decide +kernel
theorem dX3_writeByChance_11 : decode cX3_writeByChance 11 = .ok (.iconst 0, 1) := by decide +kernel
theorem dX3_writeByChance_12 : decode cX3_writeByChance 12 = .ok (.istore 6, 2) := by decide +kernel
theorem dX3_writeByChance_14 : decode cX3_writeByChance 14 = .ok (.iload 6, 2) := by decide +kernel
theorem dX3_writeByChance_16 : decode cX3_writeByChance 16 = .ok (.iload_n 3, 1) := by decide +kernel
theorem dX3_writeByChance_17 : decode cX3_writeByChance 17 = .ok (.if_icmp .ge 75, 3) := by decide +kernel
theorem dX3_writeByChance_20 : decode cX3_writeByChance 20 = .ok (.lload 4, 2) := by decide +kernel
theorem dX3_writeByChance_22 : decode cX3_writeByChance 22 = .ok (.ldc2_w 116, 3) := by decide +kernel
theorem dX3_writeByChance_25 : decode cX3_writeByChance 25 = .ok (.lmul, 1) := by decide +kernel
theorem dX3_writeByChance_26 : decode cX3_writeByChance 26 = .ok (.ldc2_w 118, 3) := by decide +kernel
theorem dX3_writeByChance_29 : decode cX3_writeByChance 29 = .ok (.ladd, 1) := by decide +kernel
theorem dX3_writeByChance_30 : decode cX3_writeByChance 30 = .ok (.lstore 4, 2) := by decide +kernel
theorem dX3_writeByChance_32 : decode cX3_writeByChance 32 = .ok (.lload 4, 2) := by decide +kernel
theorem dX3_writeByChance_34 : decode cX3_writeByChance 34 = .ok (.bipush 33, 2) := by decide +kernel
theorem dX3_writeByChance_36 : decode cX3_writeByChance 36 = .ok (.lushr, 1) := by decide +kernel
theorem dX3_writeByChance_37 : decode cX3_writeByChance 37 = .ok (.l2i, 1) := by decide +kernel
theorem dX3_writeByChance_38 : decode cX3_writeByChance 38 = .ok (.istore 7, 2) := by decide +kernel
theorem dX3_writeByChance_40 : decode cX3_writeByChance 40 = .ok (.iload 7, 2) := by decide +kernel
theorem dX3_writeByChance_42 : decode cX3_writeByChance 42 = .ok (.iconst 4, 1) := by decide +kernel
theorem dX3_writeByChance_43 : decode cX3_writeByChance 43 = .ok (.irem, 1) := by decide +kernel
theorem dX3_writeByChance_44 : decode cX3_writeByChance 44 = .ok (.ifCond .ne 7, 3) := by decide +kernel
theorem dX3_writeByChance_47 : decode cX3_writeByChance 47 = .ok (.iconst 0, 1) := by decide +kernel
theorem dX3_writeByChance_48 : decode cX3_writeByChance 48 = .ok (.goto 12, 3) := by decide +kernel
theorem dX3_writeByChance_51 : decode cX3_writeByChance 51 = .ok (.iload 7, 2) := by decide +kernel
theorem dX3_writeByChance_53 : decode cX3_writeByChance 53 = .ok (.iconst 4, 1) := by decide +kernel
theorem dX3_writeByChance_54 : decode cX3_writeByChance 54 = .ok (.idiv, 1) := by decide +kernel
theorem dX3_writeByChance_55 : decode cX3_writeByChance 55 = .ok (.aload_n 0, 1) := by decide +kernel
theorem dX3_writeByChance_56 : decode cX3_writeByChance 56 = .ok (.getfield 25, 3) := by decide +kernel
theorem dX3_writeByChance_59 : decode cX3_writeByChance 59 = .ok (.irem, 1) := by decide +kernel
theorem dX3_writeByChance_60 : decode cX3_writeByChance 60 = .ok (.istore 8, 2) := by decide +kernel
theorem dX3_writeByChance_62 : decode cX3_writeByChance 62 = .ok (.aload_n 0, 1) := by decide +kernel
theorem dX3_writeByChance_63 : decode cX3_writeByChance 63 = .ok (.getfield 55, 3) := by decide +kernel
theorem dX3_writeByChance_66 : decode cX3_writeByChance 66 = .ok (.ifCond .ne 20, 3) := by decide +kernel
theorem dX3_writeByChance_69 : decode cX3_writeByChance 69 = .ok (.aload_n 0, 1) := by decide +kernel
theorem dX3_writeByChance_70 : decode cX3_writeByChance 70 = .ok (.iload 8, 2) := by decide +kernel
theorem dX3_writeByChance_72 : decode cX3_writeByChance 72 = .ok (.iload 7, 2) := by decide +kernel
theorem dX3_writeByChance_74 : decode cX3_writeByChance 74 = .ok (.sipush 128, 3) := by decide +kernel
theorem dX3_writeByChance_77 : decode cX3_writeByChance 77 = .ok (.idiv, 1) := by decide +kernel
theorem dX3_writeByChance_78 : decode cX3_writeByChance 78 = .ok (.sipush 1000, 3) := by decide +kernel
theorem dX3_writeByChance_81 : decode cX3_writeByChance 81 = .ok (.irem, 1) := by decide +kernel
theorem dX3_writeByChance_82 : decode cX3_writeByChance 82 = .ok (.invokevirtual 109, 3) := by decide +kernel
theorem dX3_writeByChance_85 : decode cX3_writeByChance 85 = .ok (.pop, 1) := by decide +kernel
theorem dX3_writeByChance_86 : decode cX3_writeByChance 86 = .ok (.iinc 6 1, 3) := by decide +kernel
theorem dX3_writeByChance_89 : decode cX3_writeByChance 89 = .ok (.goto (-75), 3) := by decide +kernel
theorem dX3_writeByChance_92 : decode cX3_writeByChance 92 = .ok (.return_, 1) := by decide +kernel
set_option maxRecDepth 20000 in
theorem ggX3_doWrite_X3_hasLine : GoodIn wsX3_doWrite wsX3_hasLine := goodIn_r _ [6, 7, 44, 45, 46, 47, 48, 49, 50, 51, 52, 53, 54, 55, 56, 57, 58] (by decide +kernel) (by decide +kernel)
set_option maxRecDepth 20000 in
theorem gX3_doWrite_X3_hasLine : GoodIn wsX3_doWrite (wsV RX3 85 RX3 yX3_hasLine wsX3_hasLine) := goodIn_app (goodIn_of _ (by decide +kernel)) ggX3_doWrite_X3_hasLine
set_option maxRecDepth 20000 in
theorem ggX3_doWrite_X5_isValue : GoodIn wsX3_doWrite wsX5_isValue := goodIn_r _ [10] (by decide +kernel) (by decide +kernel)
set_option maxRecDepth 20000 in
theorem gX3_doWrite_X5_isValue_n120 : GoodIn wsX3_doWrite (wsX5_isValue) := ggX3_doWrite_X5_isValue
set_option maxRecDepth 20000 in
theorem ggX3_doWrite_X3_writeLine : GoodIn wsX3_doWrite wsX3_writeLine := goodIn_r _ [14, 15, 16, 17, 1, 18, 2, 3, 4, 5, 6, 7, 19, 20, 21, 22, 23, 24, 25, 26, 27, 28, 29, 30, 31, 32, 33, 34, 35, 36, 37, 38, 39, 40, 41, 42, 43, 44, 45, 46, 47, 48, 49, 50, 51, 52, 53, 54, 55, 56, 57, 58] (by decide +kernel) (by decide +kernel)
set_option maxRecDepth 20000 in
theorem gX3_doWrite_X3_writeLine : GoodIn wsX3_doWrite (wsV RX3 109 RX3 yX3_writeLine wsX3_writeLine) := goodIn_app (goodIn_of _ (by decide +kernel)) ggX3_doWrite_X3_writeLine
theorem dX3_doWrite_0 : decode cX3_doWrite 0 = .ok (.aload_n 0, 1) := by decide +kernel
theorem dX3_doWrite_1 : decode cX3_doWrite 1 = .ok (.iload_n 1, 1) := by decide +kernel
theorem dX3_doWrite_2 : decode cX3_doWrite 2 = .ok (.invokevirtual 85, 3) := by decide +kernel
theorem dX3_doWrite_5 : decode cX3_doWrite 5 = .ok (.ifCond .eq 17, 3) := by decide +kernel
theorem dX3_doWrite_8 : decode cX3_doWrite 8 = .ok (.iload_n 2, 1) := by decide +kernel
theorem dX3_doWrite_9 : decode cX3_doWrite 9 = .ok (.invokestatic 120, 3) := by decide +kernel
theorem dX3_doWrite_12 : decode cX3_doWrite 12 = .ok (.ifCond .eq 10, 3) := by decide +kernel
theorem dX3_doWrite_15 : decode cX3_doWrite 15 = .ok (.aload_n 0, 1) := by decide +kernel
theorem dX3_doWrite_16 : decode cX3_doWrite 16 = .ok (.getfield 55, 3) := by decide +kernel
theorem dX3_doWrite_19 : decode cX3_doWrite 19 = .ok (.ifCond .eq 5, 3) := by decide +kernel
theorem dX3_doWrite_22 : decode cX3_doWrite 22 = .ok (.iconst 0, 1) := by decide +kernel
theorem dX3_doWrite_23 : decode cX3_doWrite 23 = .ok (.ireturn, 1) := by decide +kernel
theorem dX3_doWrite_24 : decode cX3_doWrite 24 = .ok (.aload_n 0, 1) := by decide +kernel
theorem dX3_doWrite_25 : decode cX3_doWrite 25 = .ok (.iload_n 1, 1) := by decide +kernel
theorem dX3_doWrite_26 : decode cX3_doWrite 26 = .ok (.iload_n 2, 1) := by decide +kernel
theorem dX3_doWrite_27 : decode cX3_doWrite 27 = .ok (.invokevirtual 109, 3) := by decide +kernel
theorem dX3_doWrite_30 : decode cX3_doWrite 30 = .ok (.pop, 1) := by decide +kernel
theorem dX3_doWrite_31 : decode cX3_doWrite 31 = .ok (.iconst 1, 1) := by decide +kernel
theorem dX3_doWrite_32 : decode cX3_doWrite 32 = .ok (.ireturn, 1) := by decide +kernel
set_option maxRecDepth 20000 in
theorem ggX3_doHammer_X3_hasLine : GoodIn wsX3_doHammer wsX3_hasLine := goodIn_r _ [5, 6, 52, 53, 54, 55, 56, 57, 58, 59, 60, 61, 62, 63, 64, 65, 66] (by decide +kernel) (by decide +kernel)
set_option maxRecDepth 20000 in
theorem gX3_doHammer_X3_hasLine : GoodIn wsX3_doHammer (wsV RX3 85 RX3 yX3_hasLine wsX3_hasLine) := goodIn_app (goodIn_of _ (by decide +kernel)) ggX3_doHammer_X3_hasLine
set_option maxRecDepth 20000 in
theorem ggX3_doHammer_X5_isHammered : GoodIn wsX3_doHammer wsX5_isHammered := goodIn_r _ [9] (by decide +kernel) (by decide +kernel)
set_option maxRecDepth 20000 in
theorem gX3_doHammer_X5_isHammered_n123 : GoodIn wsX3_doHammer (wsX5_isHammered) := ggX3_doHammer_X5_isHammered
set_option maxRecDepth 20000 in
theorem ggX3_doHammer_X3_hammerLine : GoodIn wsX3_doHammer wsX3_hammerLine := goodIn_r _ [13, 14, 15, 16, 17, 4, 18, 19, 1, 2, 3, 5, 6, 20, 21, 22, 23, 24, 25, 26, 27, 28, 29, 30, 31, 32, 33, 34, 35, 36, 37, 38, 39, 40, 41, 42, 43, 44, 45, 46, 47, 48, 49, 50, 51, 52, 53, 54, 55, 56, 57, 58, 59, 60, 61, 62, 63, 64, 65, 66] (by decide +kernel) (by decide +kernel)
set_option maxRecDepth 20000 in
theorem gX3_doHammer_X3_hammerLine : GoodIn wsX3_doHammer (wsV RX3 126 RX3 yX3_hammerLine wsX3_hammerLine) := goodIn_app (goodIn_of _ (by decide +kernel)) ggX3_doHammer_X3_hammerLine
theorem dX3_doHammer_0 : decode cX3_doHammer 0 = .ok (.aload_n 0, 1) := by decide +kernel
theorem dX3_doHammer_1 : decode cX3_doHammer 1 = .ok (.iload_n 1, 1) := by decide +kernel
theorem dX3_doHammer_2 : decode cX3_doHammer 2 = .ok (.invokevirtual 85, 3) := by decide +kernel
theorem dX3_doHammer_5 : decode cX3_doHammer 5 = .ok (.ifCond .eq 10, 3) := by decide +kernel
theorem dX3_doHammer_8 : decode cX3_doHammer 8 = .ok (.iload_n 2, 1) := by decide +kernel
theorem dX3_doHammer_9 : decode cX3_doHammer 9 = .ok (.invokestatic 123, 3) := by decide +kernel
theorem dX3_doHammer_12 : decode cX3_doHammer 12 = .ok (.ifCond .ne 5, 3) := by decide +kernel
theorem dX3_doHammer_15 : decode cX3_doHammer 15 = .ok (.iconst 0, 1) := by decide +kernel
theorem dX3_doHammer_16 : decode cX3_doHammer 16 = .ok (.ireturn, 1) := by decide +kernel
theorem dX3_doHammer_17 : decode cX3_doHammer 17 = .ok (.aload_n 0, 1) := by decide +kernel
theorem dX3_doHammer_18 : decode cX3_doHammer 18 = .ok (.iload_n 1, 1) := by decide +kernel
theorem dX3_doHammer_19 : decode cX3_doHammer 19 = .ok (.iload_n 2, 1) := by decide +kernel
theorem dX3_doHammer_20 : decode cX3_doHammer 20 = .ok (.invokevirtual 126, 3) := by decide +kernel
theorem dX3_doHammer_23 : decode cX3_doHammer 23 = .ok (.pop, 1) := by decide +kernel
theorem dX3_doHammer_24 : decode cX3_doHammer 24 = .ok (.iconst 1, 1) := by decide +kernel
theorem dX3_doHammer_25 : decode cX3_doHammer 25 = .ok (.ireturn, 1) := by decide +kernel
set_option maxRecDepth 20000 in
theorem ggX3_doAll_X5_isRounds : GoodIn wsX3_doAll wsX5_isRounds := goodIn_r _ [4] (by decide +kernel) (by decide +kernel)
set_option maxRecDepth 20000 in
theorem gX3_doAll_X5_isRounds_n129 : GoodIn wsX3_doAll (wsX5_isRounds) := ggX3_doAll_X5_isRounds
set_option maxRecDepth 20000 in
theorem ggX3_doAll_X3_exists : GoodIn wsX3_doAll wsX3_exists := goodIn_r _ [9, 1, 56, 57, 58, 59, 60, 61, 62, 63, 64, 65, 66, 67, 68, 69, 70] (by decide +kernel) (by decide +kernel)
set_option maxRecDepth 20000 in
theorem gX3_doAll_X3_exists : GoodIn wsX3_doAll (wsV RX3 112 RX3 yX3_exists wsX3_exists) := goodIn_app (goodIn_of _ (by decide +kernel)) ggX3_doAll_X3_exists
set_option maxRecDepth 20000 in
theorem ggX3_doAll_X3_writeInTurn : GoodIn wsX3_doAll wsX3_writeInTurn := goodIn_r _ [13, 14, 1, 15, 16, 17, 8, 18, 19, 20, 21, 22, 23, 24, 25, 26, 27, 28, 29, 30, 31, 32, 33, 34, 35, 36, 37, 38, 39, 40, 41, 42, 43, 44, 45, 46, 47, 48, 49, 50, 51, 52, 53, 54, 55, 56, 57, 58, 59, 60, 61, 62, 63, 64, 65, 66, 67, 68, 69, 70] (by decide +kernel) (by decide +kernel)
set_option maxRecDepth 20000 in
theorem gX3_doAll_X3_writeInTurn : GoodIn wsX3_doAll (wsV RX3 132 RX3 yX3_writeInTurn wsX3_writeInTurn) := goodIn_app (goodIn_of _ (by decide +kernel)) ggX3_doAll_X3_writeInTurn
theorem dX3_doAll_0 : decode cX3_doAll 0 = .ok (.iload_n 1, 1) := by decide +kernel
theorem dX3_doAll_1 : decode cX3_doAll 1 = .ok (.invokestatic 129, 3) := by decide +kernel
theorem dX3_doAll_4 : decode cX3_doAll 4 = .ok (.ifCond .eq 10, 3) := by decide +kernel
theorem dX3_doAll_7 : decode cX3_doAll 7 = .ok (.aload_n 0, 1) := by decide +kernel
theorem dX3_doAll_8 : decode cX3_doAll 8 = .ok (.invokevirtual 112, 3) := by decide +kernel
theorem dX3_doAll_11 : decode cX3_doAll 11 = .ok (.ifCond .ne 5, 3) := by decide +kernel
theorem dX3_doAll_14 : decode cX3_doAll 14 = .ok (.iconst 0, 1) := by decide +kernel
theorem dX3_doAll_15 : decode cX3_doAll 15 = .ok (.ireturn, 1) := by decide +kernel
theorem dX3_doAll_16 : decode cX3_doAll 16 = .ok (.aload_n 0, 1) := by decide +kernel
theorem dX3_doAll_17 : decode cX3_doAll 17 = .ok (.iload_n 1, 1) := by decide +kernel
theorem dX3_doAll_18 : decode cX3_doAll 18 = .ok (.aload_n 0, 1) := by decide +kernel
theorem dX3_doAll_19 : decode cX3_doAll 19 = .ok (.getfield 25, 3) := by decide +kernel
theorem dX3_doAll_22 : decode cX3_doAll 22 = .ok (.imul, 1) := by decide +kernel
theorem dX3_doAll_23 : decode cX3_doAll 23 = .ok (.invokevirtual 132, 3) := by decide +kernel
theorem dX3_doAll_26 : decode cX3_doAll 26 = .ok (.pop, 1) := by decide +kernel
theorem dX3_doAll_27 : decode cX3_doAll 27 = .ok (.iconst 1, 1) := by decide +kernel
theorem dX3_doAll_28 : decode cX3_doAll 28 = .ok (.ireturn, 1) := by decide +kernel
set_option maxRecDepth 20000 in
theorem ggX3_doSet_X5_isSettingValue : GoodIn wsX3_doSet wsX5_isSettingValue := goodIn_r _ [3] (by decide +kernel) (by decide +kernel)
set_option maxRecDepth 20000 in
theorem gX3_doSet_X5_isSettingValue_n135 : GoodIn wsX3_doSet (wsX5_isSettingValue) := ggX3_doSet_X5_isSettingValue
set_option maxRecDepth 20000 in
theorem ggX3_doSet_X3_changeSetting : GoodIn wsX3_doSet wsX3_changeSetting := goodIn_r _ [8, 9, 10, 11, 12, 13, 14, 15, 16, 17, 18, 19, 20, 21, 22, 23, 24, 25] (by decide +kernel) (by decide +kernel)
set_option maxRecDepth 20000 in
theorem gX3_doSet_X3_changeSetting : GoodIn wsX3_doSet (wsV RX3 139 RX3 yX3_changeSetting wsX3_changeSetting) := goodIn_app (goodIn_of _ (by decide +kernel)) ggX3_doSet_X3_changeSetting
theorem dX3_doSet_0 : decode cX3_doSet 0 = .ok (.iload_n 1, 1) := by decide +kernel
theorem dX3_doSet_1 : decode cX3_doSet 1 = .ok (.iload_n 2, 1) := by decide +kernel
theorem dX3_doSet_2 : decode cX3_doSet 2 = .ok (.invokestatic 135, 3) := by decide +kernel
theorem dX3_doSet_5 : decode cX3_doSet 5 = .ok (.ifCond .ne 5, 3) := by decide +kernel
theorem dX3_doSet_8 : decode cX3_doSet 8 = .ok (.iconst 0, 1) := by decide +kernel
theorem dX3_doSet_9 : decode cX3_doSet 9 = .ok (.ireturn, 1) := by decide +kernel
theorem dX3_doSet_10 : decode cX3_doSet 10 = .ok (.aload_n 0, 1) := by decide +kernel
theorem dX3_doSet_11 : decode cX3_doSet 11 = .ok (.iload_n 1, 1) := by decide +kernel
theorem dX3_doSet_12 : decode cX3_doSet 12 = .ok (.iload_n 2, 1) := by decide +kernel
theorem dX3_doSet_13 : decode cX3_doSet 13 = .ok (.invokevirtual 139, 3) := by decide +kernel
theorem dX3_doSet_16 : decode cX3_doSet 16 = .ok (.iconst 1, 1) := by decide +kernel
theorem dX3_doSet_17 : decode cX3_doSet 17 = .ok (.ireturn, 1) := by decide +kernel
theorem dX4_init_0 : decode cX4_init 0 = .ok (.aload_n 0, 1) := by decide +kernel
theorem dX4_init_1 : decode cX4_init 1 = .ok (.invokespecial 3, 3) := by decide +kernel
theorem dX4_init_4 : decode cX4_init 4 = .ok (.aload_n 0, 1) := by decide +kernel
theorem dX4_init_5 : decode cX4_init 5 = .ok (.bipush 120, 2) := by decide +kernel
theorem dX4_init_7 : decode cX4_init 7 = .ok (.newarray .char, 2) := by decide +kernel
theorem dX4_init_9 : decode cX4_init 9 = .ok (.putfield 11, 3) := by decide +kernel
theorem dX4_init_12 : decode cX4_init 12 = .ok (.return_, 1) := by decide +kernel
theorem dX4_isFull_0 : decode cX4_isFull 0 = .ok (.aload_n 0, 1) := by decide +kernel
theorem dX4_isFull_1 : decode cX4_isFull 1 = .ok (.getfield 15, 3) := by decide +kernel
theorem dX4_isFull_4 : decode cX4_isFull 4 = .ok (.bipush 120, 2) := by decide +kernel
theorem dX4_isFull_6 : decode cX4_isFull 6 = .ok (.if_icmp .lt 7, 3) := by decide +kernel
theorem dX4_isFull_9 : decode cX4_isFull 9 = .ok (.iconst 1, 1) := by decide +kernel
theorem dX4_isFull_10 : decode cX4_isFull 10 = .ok (.goto 4, 3) := by decide +kernel
theorem dX4_isFull_13 : decode cX4_isFull 13 = .ok (.iconst 0, 1) := by decide +kernel
theorem dX4_isFull_14 : decode cX4_isFull 14 = .ok (.ireturn, 1) := by decide +kernel
set_option maxRecDepth 20000 in
theorem ggX4_add_X4_isFull : GoodIn wsX4_add wsX4_isFull := goodIn_r _ [7, 2, 8, 9] (by decide +kernel) (by decide +kernel)
set_option maxRecDepth 20000 in
theorem gX4_add_X4_isFull : GoodIn wsX4_add (wsV RX4 19 RX4 yX4_isFull wsX4_isFull) := goodIn_app (goodIn_of _ (by decide +kernel)) ggX4_add_X4_isFull
theorem dX4_add_0 : decode cX4_add 0 = .ok (.aload_n 0, 1) := by decide +kernel
theorem dX4_add_1 : decode cX4_add 1 = .ok (.invokevirtual 19, 3) := by decide +kernel
theorem dX4_add_4 : decode cX4_add 4 = .ok (.ifCond .ne 23, 3) := by decide +kernel
theorem dX4_add_7 : decode cX4_add 7 = .ok (.aload_n 0, 1) := by decide +kernel
theorem dX4_add_8 : decode cX4_add 8 = .ok (.getfield 11, 3) := by decide +kernel
theorem dX4_add_11 : decode cX4_add 11 = .ok (.aload_n 0, 1) := by decide +kernel
theorem dX4_add_12 : decode cX4_add 12 = .ok (.getfield 15, 3) := by decide +kernel
theorem dX4_add_15 : decode cX4_add 15 = .ok (.iload_n 1, 1) := by decide +kernel
theorem dX4_add_16 : decode cX4_add 16 = .ok (.castore, 1) := by decide +kernel
theorem dX4_add_17 : decode cX4_add 17 = .ok (.aload_n 0, 1) := by decide +kernel
theorem dX4_add_18 : decode cX4_add 18 = .ok (.dup, 1) := by decide +kernel
theorem dX4_add_19 : decode cX4_add 19 = .ok (.getfield 15, 3) := by decide +kernel
theorem dX4_add_22 : decode cX4_add 22 = .ok (.iconst 1, 1) := by decide +kernel
theorem dX4_add_23 : decode cX4_add 23 = .ok (.iadd, 1) := by decide +kernel
theorem dX4_add_24 : decode cX4_add 24 = .ok (.putfield 15, 3) := by decide +kernel
theorem dX4_add_27 : decode cX4_add 27 = .ok (.aload_n 0, 1) := by decide +kernel
theorem dX4_add_28 : decode cX4_add 28 = .ok (.getfield 15, 3) := by decide +kernel
theorem dX4_add_31 : decode cX4_add 31 = .ok (.ireturn, 1) := by decide +kernel
theorem dX4_signAt_0 : decode cX4_signAt 0 = .ok (.iload_n 1, 1) := by decide +kernel
theorem dX4_signAt_1 : decode cX4_signAt 1 = .ok (.ifCond .lt 20, 3) := by decide +kernel
theorem dX4_signAt_4 : decode cX4_signAt 4 = .ok (.iload_n 1, 1) := by decide +kernel
theorem dX4_signAt_5 : decode cX4_signAt 5 = .ok (.aload_n 0, 1) := by decide +kernel
theorem dX4_signAt_6 : decode cX4_signAt 6 = .ok (.getfield 15, 3) := by decide +kernel
theorem dX4_signAt_9 : decode cX4_signAt 9 = .ok (.if_icmp .ge 12, 3) := by decide +kernel
theorem dX4_signAt_12 : decode cX4_signAt 12 = .ok (.aload_n 0, 1) := by decide +kernel
theorem dX4_signAt_13 : decode cX4_signAt 13 = .ok (.getfield 11, 3) := by decide +kernel
theorem dX4_signAt_16 : decode cX4_signAt 16 = .ok (.iload_n 1, 1) := by decide +kernel
theorem dX4_signAt_17 : decode cX4_signAt 17 = .ok (.caload, 1) := by decide +kernel
theorem dX4_signAt_18 : decode cX4_signAt 18 = .ok (.goto 4, 3) := by decide +kernel
theorem dX4_signAt_21 : decode cX4_signAt 21 = .ok (.iconst 0, 1) := by decide +kernel
theorem dX4_signAt_22 : decode cX4_signAt 22 = .ok (.ireturn, 1) := by decide +kernel
set_option maxRecDepth 20000 in
theorem ggX4_firstError_X4_errorInHead : GoodIn wsX4_firstError wsX4_errorInHead := goodIn_r _ [6, 7, 8, 9, 5, 10, 1, 11, 12, 13, 14, 15, 24, 25] (by decide +kernel) (by decide +kernel)
set_option maxRecDepth 20000 in
theorem gX4_firstError_X4_errorInHead : GoodIn wsX4_firstError (wsV RX4 23 RX4 yX4_errorInHead wsX4_errorInHead) := goodIn_app (goodIn_of _ (by decide +kernel)) ggX4_firstError_X4_errorInHead
set_option maxRecDepth 20000 in
theorem ggX4_firstError_X4_errorInCommand : GoodIn wsX4_firstError wsX4_errorInCommand := goodIn_r _ [19, 7, 8, 9, 5, 10, 1, 11, 12, 13, 14, 15, 24, 25] (by decide +kernel) (by decide +kernel)
set_option maxRecDepth 20000 in
theorem gX4_firstError_X4_errorInCommand : GoodIn wsX4_firstError (wsV RX4 27 RX4 yX4_errorInCommand wsX4_errorInCommand) := goodIn_app (goodIn_of _ (by decide +kernel)) ggX4_firstError_X4_errorInCommand
set_option maxRecDepth 20000 in
theorem ggX4_firstError_X4_commandLength : GoodIn wsX4_firstError wsX4_commandLength := goodIn_r _ [23, 7, 8, 9, 5, 10, 1, 11, 24, 25] (by decide +kernel) (by decide +kernel)
set_option maxRecDepth 20000 in
theorem gX4_firstError_X4_commandLength : GoodIn wsX4_firstError (wsV RX4 31 RX4 yX4_commandLength wsX4_commandLength) := goodIn_app (goodIn_of _ (by decide +kernel)) ggX4_firstError_X4_commandLength
theorem dX4_firstError_0 : decode cX4_firstError 0 = .ok (.aload_n 0, 1) := by decide +kernel
theorem dX4_firstError_1 : decode cX4_firstError 1 = .ok (.invokevirtual 23, 3) := by decide +kernel
theorem dX4_firstError_4 : decode cX4_firstError 4 = .ok (.istore_n 1, 1) := by decide +kernel
theorem dX4_firstError_5 : decode cX4_firstError 5 = .ok (.bipush 6, 2) := by decide +kernel
theorem dX4_firstError_7 : decode cX4_firstError 7 = .ok (.istore_n 2, 1) := by decide +kernel
theorem dX4_firstError_8 : decode cX4_firstError 8 = .ok (.bipush 6, 2) := by decide +kernel
theorem dX4_firstError_10 : decode cX4_firstError 10 = .ok (.istore_n 3, 1) := by decide +kernel
theorem dX4_firstError_11 : decode cX4_firstError 11 = .ok (.iload_n 3, 1) := by decide +kernel
theorem dX4_firstError_12 : decode cX4_firstError 12 = .ok (.aload_n 0, 1) := by decide +kernel
theorem dX4_firstError_13 : decode cX4_firstError 13 = .ok (.getfield 15, 3) := by decide +kernel
theorem dX4_firstError_16 : decode cX4_firstError 16 = .ok (.if_icmp .ge 33, 3) := by decide +kernel
theorem dX4_firstError_19 : decode cX4_firstError 19 = .ok (.iload_n 1, 1) := by decide +kernel
theorem dX4_firstError_20 : decode cX4_firstError 20 = .ok (.iconst (-1), 1) := by decide +kernel
theorem dX4_firstError_21 : decode cX4_firstError 21 = .ok (.if_icmp .ne 28, 3) := by decide +kernel
theorem dX4_firstError_24 : decode cX4_firstError 24 = .ok (.iload_n 3, 1) := by decide +kernel
theorem dX4_firstError_25 : decode cX4_firstError 25 = .ok (.iload_n 2, 1) := by decide +kernel
theorem dX4_firstError_26 : decode cX4_firstError 26 = .ok (.if_icmp .ne 17, 3) := by decide +kernel
theorem dX4_firstError_29 : decode cX4_firstError 29 = .ok (.aload_n 0, 1) := by decide +kernel
theorem dX4_firstError_30 : decode cX4_firstError 30 = .ok (.iload_n 3, 1) := by decide +kernel
theorem dX4_firstError_31 : decode cX4_firstError 31 = .ok (.invokevirtual 27, 3) := by decide +kernel
theorem dX4_firstError_34 : decode cX4_firstError 34 = .ok (.istore_n 1, 1) := by decide +kernel
theorem dX4_firstError_35 : decode cX4_firstError 35 = .ok (.iload_n 3, 1) := by decide +kernel
theorem dX4_firstError_36 : decode cX4_firstError 36 = .ok (.aload_n 0, 1) := by decide +kernel
theorem dX4_firstError_37 : decode cX4_firstError 37 = .ok (.iload_n 3, 1) := by decide +kernel
theorem dX4_firstError_38 : decode cX4_firstError 38 = .ok (.invokevirtual 31, 3) := by decide +kernel
theorem dX4_firstError_41 : decode cX4_firstError 41 = .ok (.iadd, 1) := by decide +kernel
theorem dX4_firstError_42 : decode cX4_firstError 42 = .ok (.istore_n 2, 1) := by decide +kernel
theorem dX4_firstError_43 : decode cX4_firstError 43 = .ok (.iinc 3 1, 3) := by decide +kernel
theorem dX4_firstError_46 : decode cX4_firstError 46 = .ok (.goto (-35), 3) := by decide +kernel
theorem dX4_firstError_49 : decode cX4_firstError 49 = .ok (.iload_n 1, 1) := by decide +kernel
theorem dX4_firstError_50 : decode cX4_firstError 50 = .ok (.ireturn, 1) := by decide +kernel
set_option maxRecDepth 20000 in
theorem ggX4_errorInHead_X4_signAt : GoodIn wsX4_errorInHead wsX4_signAt := goodIn_r _ [5, 6, 7, 12, 13] (by decide +kernel) (by decide +kernel)
set_option maxRecDepth 20000 in
theorem gX4_errorInHead_X4_signAt : GoodIn wsX4_errorInHead (wsV RX4 34 RX4 yX4_signAt wsX4_signAt) := goodIn_app (goodIn_of _ (by decide +kernel)) ggX4_errorInHead_X4_signAt
set_option maxRecDepth 20000 in
theorem ggX4_errorInHead_X4_errorInNumber : GoodIn wsX4_errorInHead wsX4_errorInNumber := goodIn_r _ [11, 1, 2, 3, 4, 5, 6, 7, 12, 13] (by decide +kernel) (by decide +kernel)
set_option maxRecDepth 20000 in
theorem gX4_errorInHead_X4_errorInNumber : GoodIn wsX4_errorInHead (wsV RX4 38 RX4 yX4_errorInNumber wsX4_errorInNumber) := goodIn_app (goodIn_of _ (by decide +kernel)) ggX4_errorInHead_X4_errorInNumber
theorem dX4_errorInHead_0 : decode cX4_errorInHead 0 = .ok (.aload_n 0, 1) := by decide +kernel
theorem dX4_errorInHead_1 : decode cX4_errorInHead 1 = .ok (.iconst 0, 1) := by decide +kernel
theorem dX4_errorInHead_2 : decode cX4_errorInHead 2 = .ok (.invokevirtual 34, 3) := by decide +kernel
theorem dX4_errorInHead_5 : decode cX4_errorInHead 5 = .ok (.bipush 76, 2) := by decide +kernel
theorem dX4_errorInHead_7 : decode cX4_errorInHead 7 = .ok (.if_icmp .eq 5, 3) := by decide +kernel
theorem dX4_errorInHead_10 : decode cX4_errorInHead 10 = .ok (.iconst 0, 1) := by decide +kernel
theorem dX4_errorInHead_11 : decode cX4_errorInHead 11 = .ok (.ireturn, 1) := by decide +kernel
theorem dX4_errorInHead_12 : decode cX4_errorInHead 12 = .ok (.aload_n 0, 1) := by decide +kernel
theorem dX4_errorInHead_13 : decode cX4_errorInHead 13 = .ok (.iconst 1, 1) := by decide +kernel
theorem dX4_errorInHead_14 : decode cX4_errorInHead 14 = .ok (.iconst 2, 1) := by decide +kernel
theorem dX4_errorInHead_15 : decode cX4_errorInHead 15 = .ok (.iconst 4, 1) := by decide +kernel
theorem dX4_errorInHead_16 : decode cX4_errorInHead 16 = .ok (.bipush 32, 2) := by decide +kernel
theorem dX4_errorInHead_18 : decode cX4_errorInHead 18 = .ok (.invokevirtual 38, 3) := by decide +kernel
theorem dX4_errorInHead_21 : decode cX4_errorInHead 21 = .ok (.istore_n 1, 1) := by decide +kernel
theorem dX4_errorInHead_22 : decode cX4_errorInHead 22 = .ok (.iload_n 1, 1) := by decide +kernel
theorem dX4_errorInHead_23 : decode cX4_errorInHead 23 = .ok (.iconst (-1), 1) := by decide +kernel
theorem dX4_errorInHead_24 : decode cX4_errorInHead 24 = .ok (.if_icmp .ne 13, 3) := by decide +kernel
theorem dX4_errorInHead_27 : decode cX4_errorInHead 27 = .ok (.aload_n 0, 1) := by decide +kernel
theorem dX4_errorInHead_28 : decode cX4_errorInHead 28 = .ok (.iconst 3, 1) := by decide +kernel
theorem dX4_errorInHead_29 : decode cX4_errorInHead 29 = .ok (.iconst 2, 1) := by decide +kernel
theorem dX4_errorInHead_30 : decode cX4_errorInHead 30 = .ok (.iconst 1, 1) := by decide +kernel
theorem dX4_errorInHead_31 : decode cX4_errorInHead 31 = .ok (.bipush 31, 2) := by decide +kernel
theorem dX4_errorInHead_33 : decode cX4_errorInHead 33 = .ok (.invokevirtual 38, 3) := by decide +kernel
theorem dX4_errorInHead_36 : decode cX4_errorInHead 36 = .ok (.istore_n 1, 1) := by decide +kernel
theorem dX4_errorInHead_37 : decode cX4_errorInHead 37 = .ok (.iload_n 1, 1) := by decide +kernel
theorem dX4_errorInHead_38 : decode cX4_errorInHead 38 = .ok (.iconst (-1), 1) := by decide +kernel
theorem dX4_errorInHead_39 : decode cX4_errorInHead 39 = .ok (.if_icmp .ne 12, 3) := by decide +kernel
theorem dX4_errorInHead_42 : decode cX4_errorInHead 42 = .ok (.aload_n 0, 1) := by decide +kernel
theorem dX4_errorInHead_43 : decode cX4_errorInHead 43 = .ok (.iconst 5, 1) := by decide +kernel
theorem dX4_errorInHead_44 : decode cX4_errorInHead 44 = .ok (.iconst 1, 1) := by decide +kernel
theorem dX4_errorInHead_45 : decode cX4_errorInHead 45 = .ok (.iconst 0, 1) := by decide +kernel
theorem dX4_errorInHead_46 : decode cX4_errorInHead 46 = .ok (.iconst 4, 1) := by decide +kernel
theorem dX4_errorInHead_47 : decode cX4_errorInHead 47 = .ok (.invokevirtual 38, 3) := by decide +kernel
theorem dX4_errorInHead_50 : decode cX4_errorInHead 50 = .ok (.istore_n 1, 1) := by decide +kernel
theorem dX4_errorInHead_51 : decode cX4_errorInHead 51 = .ok (.iload_n 1, 1) := by decide +kernel
theorem dX4_errorInHead_52 : decode cX4_errorInHead 52 = .ok (.ireturn, 1) := by decide +kernel
set_option maxRecDepth 20000 in
theorem ggX4_errorInCommand_X4_signAt : GoodIn wsX4_errorInCommand wsX4_signAt := goodIn_r _ [5, 6, 7, 12, 13] (by decide +kernel) (by decide +kernel)
set_option maxRecDepth 20000 in
theorem gX4_errorInCommand_X4_signAt : GoodIn wsX4_errorInCommand (wsV RX4 34 RX4 yX4_signAt wsX4_signAt) := goodIn_app (goodIn_of _ (by decide +kernel)) ggX4_errorInCommand_X4_signAt
set_option maxRecDepth 20000 in
theorem ggX4_errorInCommand_X4_errorInNumber : GoodIn wsX4_errorInCommand wsX4_errorInNumber := goodIn_r _ [11, 1, 2, 3, 4, 5, 6, 7, 12, 13] (by decide +kernel) (by decide +kernel)
set_option maxRecDepth 20000 in
theorem gX4_errorInCommand_X4_errorInNumber : GoodIn wsX4_errorInCommand (wsV RX4 38 RX4 yX4_errorInNumber wsX4_errorInNumber) := goodIn_app (goodIn_of _ (by decide +kernel)) ggX4_errorInCommand_X4_errorInNumber
theorem dX4_errorInCommand_0 : decode cX4_errorInCommand 0 = .ok (.aload_n 0, 1) := by decide +kernel
theorem dX4_errorInCommand_1 : decode cX4_errorInCommand 1 = .ok (.iload_n 1, 1) := by decide +kernel
theorem dX4_errorInCommand_2 : decode cX4_errorInCommand 2 = .ok (.invokevirtual 34, 3) := by decide +kernel
theorem dX4_errorInCommand_5 : decode cX4_errorInCommand 5 = .ok (.bipush 97, 2) := by decide +kernel
theorem dX4_errorInCommand_7 : decode cX4_errorInCommand 7 = .ok (.if_icmp .ne 15, 3) := by decide +kernel
theorem dX4_errorInCommand_10 : decode cX4_errorInCommand 10 = .ok (.aload_n 0, 1) := by decide +kernel
theorem dX4_errorInCommand_11 : decode cX4_errorInCommand 11 = .ok (.iload_n 1, 1) := by decide +kernel
theorem dX4_errorInCommand_12 : decode cX4_errorInCommand 12 = .ok (.iconst 1, 1) := by decide +kernel
theorem dX4_errorInCommand_13 : decode cX4_errorInCommand 13 = .ok (.iadd, 1) := by decide +kernel
theorem dX4_errorInCommand_14 : decode cX4_errorInCommand 14 = .ok (.iconst 1, 1) := by decide +kernel
theorem dX4_errorInCommand_15 : decode cX4_errorInCommand 15 = .ok (.iconst 1, 1) := by decide +kernel
theorem dX4_errorInCommand_16 : decode cX4_errorInCommand 16 = .ok (.bipush 9, 2) := by decide +kernel
theorem dX4_errorInCommand_18 : decode cX4_errorInCommand 18 = .ok (.invokevirtual 38, 3) := by decide +kernel
theorem dX4_errorInCommand_21 : decode cX4_errorInCommand 21 = .ok (.ireturn, 1) := by decide +kernel
theorem dX4_errorInCommand_22 : decode cX4_errorInCommand 22 = .ok (.aload_n 0, 1) := by decide +kernel
theorem dX4_errorInCommand_23 : decode cX4_errorInCommand 23 = .ok (.iload_n 1, 1) := by decide +kernel
theorem dX4_errorInCommand_24 : decode cX4_errorInCommand 24 = .ok (.invokevirtual 34, 3) := by decide +kernel
theorem dX4_errorInCommand_27 : decode cX4_errorInCommand 27 = .ok (.bipush 119, 2) := by decide +kernel
theorem dX4_errorInCommand_29 : decode cX4_errorInCommand 29 = .ok (.if_icmp .eq 15, 3) := by decide +kernel
theorem dX4_errorInCommand_32 : decode cX4_errorInCommand 32 = .ok (.aload_n 0, 1) := by decide +kernel
theorem dX4_errorInCommand_33 : decode cX4_errorInCommand 33 = .ok (.iload_n 1, 1) := by decide +kernel
theorem dX4_errorInCommand_34 : decode cX4_errorInCommand 34 = .ok (.invokevirtual 34, 3) := by decide +kernel
theorem dX4_errorInCommand_37 : decode cX4_errorInCommand 37 = .ok (.bipush 104, 2) := by decide +kernel
theorem dX4_errorInCommand_39 : decode cX4_errorInCommand 39 = .ok (.if_icmp .eq 5, 3) := by decide +kernel
theorem dX4_errorInCommand_42 : decode cX4_errorInCommand 42 = .ok (.iload_n 1, 1) := by decide +kernel
theorem dX4_errorInCommand_43 : decode cX4_errorInCommand 43 = .ok (.ireturn, 1) := by decide +kernel
theorem dX4_errorInCommand_44 : decode cX4_errorInCommand 44 = .ok (.aload_n 0, 1) := by decide +kernel
theorem dX4_errorInCommand_45 : decode cX4_errorInCommand 45 = .ok (.iload_n 1, 1) := by decide +kernel
theorem dX4_errorInCommand_46 : decode cX4_errorInCommand 46 = .ok (.iconst 1, 1) := by decide +kernel
theorem dX4_errorInCommand_47 : decode cX4_errorInCommand 47 = .ok (.iadd, 1) := by decide +kernel
theorem dX4_errorInCommand_48 : decode cX4_errorInCommand 48 = .ok (.iconst 2, 1) := by decide +kernel
theorem dX4_errorInCommand_49 : decode cX4_errorInCommand 49 = .ok (.iconst 0, 1) := by decide +kernel
theorem dX4_errorInCommand_50 : decode cX4_errorInCommand 50 = .ok (.bipush 31, 2) := by decide +kernel
theorem dX4_errorInCommand_52 : decode cX4_errorInCommand 52 = .ok (.invokevirtual 38, 3) := by decide +kernel
theorem dX4_errorInCommand_55 : decode cX4_errorInCommand 55 = .ok (.istore_n 2, 1) := by decide +kernel
theorem dX4_errorInCommand_56 : decode cX4_errorInCommand 56 = .ok (.iload_n 2, 1) := by decide +kernel
theorem dX4_errorInCommand_57 : decode cX4_errorInCommand 57 = .ok (.iconst (-1), 1) := by decide +kernel
theorem dX4_errorInCommand_58 : decode cX4_errorInCommand 58 = .ok (.if_icmp .eq 5, 3) := by decide +kernel
theorem dX4_errorInCommand_61 : decode cX4_errorInCommand 61 = .ok (.iload_n 2, 1) := by decide +kernel
theorem dX4_errorInCommand_62 : decode cX4_errorInCommand 62 = .ok (.ireturn, 1) := by decide +kernel
theorem dX4_errorInCommand_63 : decode cX4_errorInCommand 63 = .ok (.aload_n 0, 1) := by decide +kernel
theorem dX4_errorInCommand_64 : decode cX4_errorInCommand 64 = .ok (.iload_n 1, 1) := by decide +kernel
theorem dX4_errorInCommand_65 : decode cX4_errorInCommand 65 = .ok (.invokevirtual 34, 3) := by decide +kernel
theorem dX4_errorInCommand_68 : decode cX4_errorInCommand 68 = .ok (.bipush 119, 2) := by decide +kernel
theorem dX4_errorInCommand_70 : decode cX4_errorInCommand 70 = .ok (.if_icmp .ne 18, 3) := by decide +kernel
theorem dX4_errorInCommand_73 : decode cX4_errorInCommand 73 = .ok (.aload_n 0, 1) := by decide +kernel
theorem dX4_errorInCommand_74 : decode cX4_errorInCommand 74 = .ok (.iload_n 1, 1) := by decide +kernel
theorem dX4_errorInCommand_75 : decode cX4_errorInCommand 75 = .ok (.iconst 3, 1) := by decide +kernel
theorem dX4_errorInCommand_76 : decode cX4_errorInCommand 76 = .ok (.iadd, 1) := by decide +kernel
theorem dX4_errorInCommand_77 : decode cX4_errorInCommand 77 = .ok (.iconst 3, 1) := by decide +kernel
theorem dX4_errorInCommand_78 : decode cX4_errorInCommand 78 = .ok (.iconst 0, 1) := by decide +kernel
theorem dX4_errorInCommand_79 : decode cX4_errorInCommand 79 = .ok (.sipush 999, 3) := by decide +kernel
theorem dX4_errorInCommand_82 : decode cX4_errorInCommand 82 = .ok (.invokevirtual 38, 3) := by decide +kernel
theorem dX4_errorInCommand_85 : decode cX4_errorInCommand 85 = .ok (.goto 14, 3) := by decide +kernel
theorem dX4_errorInCommand_88 : decode cX4_errorInCommand 88 = .ok (.aload_n 0, 1) := by decide +kernel
theorem dX4_errorInCommand_89 : decode cX4_errorInCommand 89 = .ok (.iload_n 1, 1) := by decide +kernel
theorem dX4_errorInCommand_90 : decode cX4_errorInCommand 90 = .ok (.iconst 3, 1) := by decide +kernel
theorem dX4_errorInCommand_91 : decode cX4_errorInCommand 91 = .ok (.iadd, 1) := by decide +kernel
theorem dX4_errorInCommand_92 : decode cX4_errorInCommand 92 = .ok (.iconst 2, 1) := by decide +kernel
theorem dX4_errorInCommand_93 : decode cX4_errorInCommand 93 = .ok (.iconst 1, 1) := by decide +kernel
theorem dX4_errorInCommand_94 : decode cX4_errorInCommand 94 = .ok (.bipush 99, 2) := by decide +kernel
theorem dX4_errorInCommand_96 : decode cX4_errorInCommand 96 = .ok (.invokevirtual 38, 3) := by decide +kernel
theorem dX4_errorInCommand_99 : decode cX4_errorInCommand 99 = .ok (.ireturn, 1) := by decide +kernel
set_option maxRecDepth 20000 in
theorem ggX4_commandLength_X4_signAt : GoodIn wsX4_commandLength wsX4_signAt := goodIn_r _ [5, 6, 7, 8, 9] (by decide +kernel) (by decide +kernel)
set_option maxRecDepth 20000 in
theorem gX4_commandLength_X4_signAt : GoodIn wsX4_commandLength (wsV RX4 34 RX4 yX4_signAt wsX4_signAt) := goodIn_app (goodIn_of _ (by decide +kernel)) ggX4_commandLength_X4_signAt
theorem dX4_commandLength_0 : decode cX4_commandLength 0 = .ok (.aload_n 0, 1) := by decide +kernel
theorem dX4_commandLength_1 : decode cX4_commandLength 1 = .ok (.iload_n 1, 1) := by decide +kernel
theorem dX4_commandLength_2 : decode cX4_commandLength 2 = .ok (.invokevirtual 34, 3) := by decide +kernel
theorem dX4_commandLength_5 : decode cX4_commandLength 5 = .ok (.lookupswitch 32 #[(104, 30), (119, 27)], 27) := by decide +kernel
theorem dX4_commandLength_32 : decode cX4_commandLength 32 = .ok (.bipush 6, 2) := by decide +kernel
theorem dX4_commandLength_34 : decode cX4_commandLength 34 = .ok (.ireturn, 1) := by decide +kernel
theorem dX4_commandLength_35 : decode cX4_commandLength 35 = .ok (.iconst 5, 1) := by decide +kernel
theorem dX4_commandLength_36 : decode cX4_commandLength 36 = .ok (.ireturn, 1) := by decide +kernel
theorem dX4_commandLength_37 : decode cX4_commandLength 37 = .ok (.iconst 2, 1) := by decide +kernel
theorem dX4_commandLength_38 : decode cX4_commandLength 38 = .ok (.ireturn, 1) := by decide +kernel
set_option maxRecDepth 20000 in
theorem ggX4_errorInNumber_X4_signAt : GoodIn wsX4_errorInNumber wsX4_signAt := goodIn_r _ [5, 6, 7, 8, 9] (by decide +kernel) (by decide +kernel)
set_option maxRecDepth 20000 in
theorem gX4_errorInNumber_X4_signAt : GoodIn wsX4_errorInNumber (wsV RX4 34 RX4 yX4_signAt wsX4_signAt) := goodIn_app (goodIn_of _ (by decide +kernel)) ggX4_errorInNumber_X4_signAt
theorem dX4_errorInNumber_0 : decode cX4_errorInNumber 0 = .ok (.iconst 0, 1) := by decide +kernel
theorem dX4_errorInNumber_1 : decode cX4_errorInNumber 1 = .ok (.istore 5, 2) := by decide +kernel
theorem dX4_errorInNumber_3 : decode cX4_errorInNumber 3 = .ok (.iload_n 2, 1) := by decide +kernel
theorem dX4_errorInNumber_4 : decode cX4_errorInNumber 4 = .ok (.iconst 3, 1) := by decide +kernel
theorem dX4_errorInNumber_5 : decode cX4_errorInNumber 5 = .ok (.if_icmp .ne 9, 3) := by decide +kernel
theorem dX4_errorInNumber_8 : decode cX4_errorInNumber 8 = .ok (.sipush 1000, 3) := by decide +kernel
theorem dX4_errorInNumber_11 : decode cX4_errorInNumber 11 = .ok (.goto 15, 3) := by decide +kernel
theorem dX4_errorInNumber_14 : decode cX4_errorInNumber 14 = .ok (.iload_n 2, 1) := by decide +kernel
theorem dX4_errorInNumber_15 : decode cX4_errorInNumber 15 = .ok (.iconst 2, 1) := by decide +kernel
theorem dX4_errorInNumber_16 : decode cX4_errorInNumber 16 = .ok (.if_icmp .ne 8, 3) := by decide +kernel
theorem dX4_errorInNumber_19 : decode cX4_errorInNumber 19 = .ok (.bipush 100, 2) := by decide +kernel
theorem dX4_errorInNumber_21 : decode cX4_errorInNumber 21 = .ok (.goto 5, 3) := by decide +kernel
theorem dX4_errorInNumber_24 : decode cX4_errorInNumber 24 = .ok (.bipush 10, 2) := by decide +kernel
theorem dX4_errorInNumber_26 : decode cX4_errorInNumber 26 = .ok (.istore 6, 2) := by decide +kernel
theorem dX4_errorInNumber_28 : decode cX4_errorInNumber 28 = .ok (.iconst 0, 1) := by decide +kernel
theorem dX4_errorInNumber_29 : decode cX4_errorInNumber 29 = .ok (.istore 7, 2) := by decide +kernel
theorem dX4_errorInNumber_31 : decode cX4_errorInNumber 31 = .ok (.iload 7, 2) := by decide +kernel
theorem dX4_errorInNumber_33 : decode cX4_errorInNumber 33 = .ok (.iload_n 2, 1) := by decide +kernel
theorem dX4_errorInNumber_34 : decode cX4_errorInNumber 34 = .ok (.if_icmp .ge 81, 3) := by decide +kernel
theorem dX4_errorInNumber_37 : decode cX4_errorInNumber 37 = .ok (.aload_n 0, 1) := by decide +kernel
theorem dX4_errorInNumber_38 : decode cX4_errorInNumber 38 = .ok (.iload_n 1, 1) := by decide +kernel
theorem dX4_errorInNumber_39 : decode cX4_errorInNumber 39 = .ok (.iload 7, 2) := by decide +kernel
theorem dX4_errorInNumber_41 : decode cX4_errorInNumber 41 = .ok (.iadd, 1) := by decide +kernel
theorem dX4_errorInNumber_42 : decode cX4_errorInNumber 42 = .ok (.invokevirtual 34, 3) := by decide +kernel
theorem dX4_errorInNumber_45 : decode cX4_errorInNumber 45 = .ok (.istore 8, 2) := by decide +kernel
theorem dX4_errorInNumber_47 : decode cX4_errorInNumber 47 = .ok (.iload 8, 2) := by decide +kernel
theorem dX4_errorInNumber_49 : decode cX4_errorInNumber 49 = .ok (.bipush 48, 2) := by decide +kernel
theorem dX4_errorInNumber_51 : decode cX4_errorInNumber 51 = .ok (.if_icmp .lt 10, 3) := by decide +kernel
theorem dX4_errorInNumber_54 : decode cX4_errorInNumber 54 = .ok (.iload 8, 2) := by decide +kernel
theorem dX4_errorInNumber_56 : decode cX4_errorInNumber 56 = .ok (.bipush 57, 2) := by decide +kernel
theorem dX4_errorInNumber_58 : decode cX4_errorInNumber 58 = .ok (.if_icmp .le 8, 3) := by decide +kernel
theorem dX4_errorInNumber_61 : decode cX4_errorInNumber 61 = .ok (.iload_n 1, 1) := by decide +kernel
theorem dX4_errorInNumber_62 : decode cX4_errorInNumber 62 = .ok (.iload 7, 2) := by decide +kernel
theorem dX4_errorInNumber_64 : decode cX4_errorInNumber 64 = .ok (.iadd, 1) := by decide +kernel
theorem dX4_errorInNumber_65 : decode cX4_errorInNumber 65 = .ok (.ireturn, 1) := by decide +kernel
theorem dX4_errorInNumber_66 : decode cX4_errorInNumber 66 = .ok (.iload 6, 2) := by decide +kernel
theorem dX4_errorInNumber_68 : decode cX4_errorInNumber 68 = .ok (.bipush 10, 2) := by decide +kernel
theorem dX4_errorInNumber_70 : decode cX4_errorInNumber 70 = .ok (.idiv, 1) := by decide +kernel
theorem dX4_errorInNumber_71 : decode cX4_errorInNumber 71 = .ok (.istore 6, 2) := by decide +kernel
theorem dX4_errorInNumber_73 : decode cX4_errorInNumber 73 = .ok (.iload 5, 2) := by decide +kernel
theorem dX4_errorInNumber_75 : decode cX4_errorInNumber 75 = .ok (.iload 8, 2) := by decide +kernel
theorem dX4_errorInNumber_77 : decode cX4_errorInNumber 77 = .ok (.bipush 48, 2) := by decide +kernel
theorem dX4_errorInNumber_79 : decode cX4_errorInNumber 79 = .ok (.isub, 1) := by decide +kernel
theorem dX4_errorInNumber_80 : decode cX4_errorInNumber 80 = .ok (.iload 6, 2) := by decide +kernel
theorem dX4_errorInNumber_82 : decode cX4_errorInNumber 82 = .ok (.imul, 1) := by decide +kernel
theorem dX4_errorInNumber_83 : decode cX4_errorInNumber 83 = .ok (.iadd, 1) := by decide +kernel
theorem dX4_errorInNumber_84 : decode cX4_errorInNumber 84 = .ok (.istore 5, 2) := by decide +kernel
theorem dX4_errorInNumber_86 : decode cX4_errorInNumber 86 = .ok (.iload 5, 2) := by decide +kernel
theorem dX4_errorInNumber_88 : decode cX4_errorInNumber 88 = .ok (.iload 4, 2) := by decide +kernel
theorem dX4_errorInNumber_90 : decode cX4_errorInNumber 90 = .ok (.if_icmp .gt 14, 3) := by decide +kernel
theorem dX4_errorInNumber_93 : decode cX4_errorInNumber 93 = .ok (.iload 5, 2) := by decide +kernel
theorem dX4_errorInNumber_95 : decode cX4_errorInNumber 95 = .ok (.iload 6, 2) := by decide +kernel
theorem dX4_errorInNumber_97 : decode cX4_errorInNumber 97 = .ok (.iadd, 1) := by decide +kernel
theorem dX4_errorInNumber_98 : decode cX4_errorInNumber 98 = .ok (.iconst 1, 1) := by decide +kernel
theorem dX4_errorInNumber_99 : decode cX4_errorInNumber 99 = .ok (.isub, 1) := by decide +kernel
theorem dX4_errorInNumber_100 : decode cX4_errorInNumber 100 = .ok (.iload_n 3, 1) := by decide +kernel
theorem dX4_errorInNumber_101 : decode cX4_errorInNumber 101 = .ok (.if_icmp .ge 8, 3) := by decide +kernel
theorem dX4_errorInNumber_104 : decode cX4_errorInNumber 104 = .ok (.iload_n 1, 1) := by decide +kernel
theorem dX4_errorInNumber_105 : decode cX4_errorInNumber 105 = .ok (.iload 7, 2) := by decide +kernel
theorem dX4_errorInNumber_107 : decode cX4_errorInNumber 107 = .ok (.iadd, 1) := by decide +kernel
theorem dX4_errorInNumber_108 : decode cX4_errorInNumber 108 = .ok (.ireturn, 1) := by decide +kernel
theorem dX4_errorInNumber_109 : decode cX4_errorInNumber 109 = .ok (.iinc 7 1, 3) := by decide +kernel
theorem dX4_errorInNumber_112 : decode cX4_errorInNumber 112 = .ok (.goto (-81), 3) := by decide +kernel
theorem dX4_errorInNumber_115 : decode cX4_errorInNumber 115 = .ok (.iconst (-1), 1) := by decide +kernel
theorem dX4_errorInNumber_116 : decode cX4_errorInNumber 116 = .ok (.ireturn, 1) := by decide +kernel
set_option maxRecDepth 20000 in
theorem ggX4_numberAt_X4_signAt : GoodIn wsX4_numberAt wsX4_signAt := goodIn_r _ [5, 6, 7, 8, 9] (by decide +kernel) (by decide +kernel)
set_option maxRecDepth 20000 in
theorem gX4_numberAt_X4_signAt : GoodIn wsX4_numberAt (wsV RX4 34 RX4 yX4_signAt wsX4_signAt) := goodIn_app (goodIn_of _ (by decide +kernel)) ggX4_numberAt_X4_signAt
theorem dX4_numberAt_0 : decode cX4_numberAt 0 = .ok (.iconst 0, 1) := by decide +kernel
theorem dX4_numberAt_1 : decode cX4_numberAt 1 = .ok (.istore_n 3, 1) := by decide +kernel
theorem dX4_numberAt_2 : decode cX4_numberAt 2 = .ok (.iconst 0, 1) := by decide +kernel
theorem dX4_numberAt_3 : decode cX4_numberAt 3 = .ok (.istore 4, 2) := by decide +kernel
theorem dX4_numberAt_5 : decode cX4_numberAt 5 = .ok (.iload 4, 2) := by decide +kernel
theorem dX4_numberAt_7 : decode cX4_numberAt 7 = .ok (.iload_n 2, 1) := by decide +kernel
theorem dX4_numberAt_8 : decode cX4_numberAt 8 = .ok (.if_icmp .ge 26, 3) := by decide +kernel
theorem dX4_numberAt_11 : decode cX4_numberAt 11 = .ok (.iload_n 3, 1) := by decide +kernel
theorem dX4_numberAt_12 : decode cX4_numberAt 12 = .ok (.bipush 10, 2) := by decide +kernel
theorem dX4_numberAt_14 : decode cX4_numberAt 14 = .ok (.imul, 1) := by decide +kernel
theorem dX4_numberAt_15 : decode cX4_numberAt 15 = .ok (.aload_n 0, 1) := by decide +kernel
theorem dX4_numberAt_16 : decode cX4_numberAt 16 = .ok (.iload_n 1, 1) := by decide +kernel
theorem dX4_numberAt_17 : decode cX4_numberAt 17 = .ok (.iload 4, 2) := by decide +kernel
theorem dX4_numberAt_19 : decode cX4_numberAt 19 = .ok (.iadd, 1) := by decide +kernel
theorem dX4_numberAt_20 : decode cX4_numberAt 20 = .ok (.invokevirtual 34, 3) := by decide +kernel
theorem dX4_numberAt_23 : decode cX4_numberAt 23 = .ok (.bipush 48, 2) := by decide +kernel
theorem dX4_numberAt_25 : decode cX4_numberAt 25 = .ok (.isub, 1) := by decide +kernel
theorem dX4_numberAt_26 : decode cX4_numberAt 26 = .ok (.iadd, 1) := by decide +kernel
theorem dX4_numberAt_27 : decode cX4_numberAt 27 = .ok (.istore_n 3, 1) := by decide +kernel
theorem dX4_numberAt_28 : decode cX4_numberAt 28 = .ok (.iinc 4 1, 3) := by decide +kernel
theorem dX4_numberAt_31 : decode cX4_numberAt 31 = .ok (.goto (-26), 3) := by decide +kernel
theorem dX4_numberAt_34 : decode cX4_numberAt 34 = .ok (.iload_n 3, 1) := by decide +kernel
theorem dX4_numberAt_35 : decode cX4_numberAt 35 = .ok (.ireturn, 1) := by decide +kernel
set_option maxRecDepth 20000 in
theorem ggX4_tellTo_X4_numberAt : GoodIn wsX4_tellTo wsX4_numberAt := goodIn_r _ [6, 7, 8, 9, 5, 10, 1, 11, 100, 101] (by decide +kernel) (by decide +kernel)
set_option maxRecDepth 20000 in
theorem gX4_tellTo_X4_numberAt : GoodIn wsX4_tellTo (wsV RX4 42 RX4 yX4_numberAt wsX4_numberAt) := goodIn_app (goodIn_of _ (by decide +kernel)) ggX4_tellTo_X4_numberAt
set_option maxRecDepth 20000 in
theorem ggX4_tellTo_X5_isShape : GoodIn wsX4_tellTo wsX5_isShape := goodIn_r _ [14, 15, 16, 13, 17] (by decide +kernel) (by decide +kernel)
set_option maxRecDepth 20000 in
theorem gX4_tellTo_X5_isShape_n46 : GoodIn wsX4_tellTo (wsX5_isShape) := ggX4_tellTo_X5_isShape
set_option maxRecDepth 20000 in
theorem ggX4_tellTo_X3_begin : GoodIn wsX4_tellTo wsX3_begin := goodIn_r _ [22, 23, 24, 25, 26, 27, 28, 29, 30, 31, 32, 33, 34, 35, 102, 103, 104, 105, 106, 107, 108, 109, 110, 111, 112, 113, 114, 115, 116] (by decide +kernel) (by decide +kernel)
set_option maxRecDepth 20000 in
theorem gX4_tellTo_X3_begin : GoodIn wsX4_tellTo (wsV RX4 50 RX3 yX3_begin wsX3_begin) := goodIn_app (goodIn_of _ (by decide +kernel)) ggX4_tellTo_X3_begin
set_option maxRecDepth 20000 in
theorem ggX4_tellTo_X4_commandLength : GoodIn wsX4_tellTo wsX4_commandLength := goodIn_r _ [39, 7, 8, 9, 5, 10, 1, 11, 100, 101] (by decide +kernel) (by decide +kernel)
set_option maxRecDepth 20000 in
theorem gX4_tellTo_X4_commandLength : GoodIn wsX4_tellTo (wsV RX4 31 RX4 yX4_commandLength wsX4_commandLength) := goodIn_app (goodIn_of _ (by decide +kernel)) ggX4_tellTo_X4_commandLength
set_option maxRecDepth 20000 in
theorem ggX4_tellTo_X4_signAt : GoodIn wsX4_tellTo wsX4_signAt := goodIn_r _ [10, 1, 11, 100, 101] (by decide +kernel) (by decide +kernel)
set_option maxRecDepth 20000 in
theorem gX4_tellTo_X4_signAt : GoodIn wsX4_tellTo (wsV RX4 34 RX4 yX4_signAt wsX4_signAt) := goodIn_app (goodIn_of _ (by decide +kernel)) ggX4_tellTo_X4_signAt
set_option maxRecDepth 20000 in
theorem ggX4_tellTo_X3_doWrite : GoodIn wsX4_tellTo wsX3_doWrite := goodIn_r _ [43, 33, 44, 45, 46, 21, 47, 23, 48, 13, 49, 50, 51, 52, 53, 34, 28, 30, 54, 55, 56, 57, 58, 25, 26, 59, 60, 61, 62, 24, 63, 64, 65, 66, 35, 32, 67, 27, 31, 68, 69, 70, 71, 29, 102, 103, 104, 105, 106, 107, 108, 109, 110, 111, 112, 113, 114, 115, 116] (by decide +kernel) (by decide +kernel)
set_option maxRecDepth 20000 in
theorem gX4_tellTo_X3_doWrite : GoodIn wsX4_tellTo (wsV RX4 56 RX3 yX3_doWrite wsX3_doWrite) := goodIn_app (goodIn_of _ (by decide +kernel)) ggX4_tellTo_X3_doWrite
set_option maxRecDepth 20000 in
theorem ggX4_tellTo_X3_doHammer : GoodIn wsX4_tellTo wsX3_doHammer := goodIn_r _ [75, 44, 45, 46, 21, 47, 23, 76, 13, 77, 78, 79, 80, 81, 33, 82, 83, 84, 85, 34, 50, 51, 52, 53, 28, 30, 54, 55, 56, 57, 58, 25, 26, 59, 60, 61, 62, 24, 63, 64, 65, 66, 35, 32, 67, 27, 31, 68, 69, 70, 71, 29, 102, 103, 104, 105, 106, 107, 108, 109, 110, 111, 112, 113, 114, 115, 116] (by decide +kernel) (by decide +kernel)
set_option maxRecDepth 20000 in
theorem gX4_tellTo_X3_doHammer : GoodIn wsX4_tellTo (wsV RX4 59 RX3 yX3_doHammer wsX3_doHammer) := goodIn_app (goodIn_of _ (by decide +kernel)) ggX4_tellTo_X3_doHammer
set_option maxRecDepth 20000 in
theorem ggX4_tellTo_X3_doAll : GoodIn wsX4_tellTo wsX3_doAll := goodIn_r _ [89, 23, 90, 13, 91, 92, 93, 94, 21, 95, 96, 97, 98, 99, 33, 82, 83, 84, 85, 34, 44, 45, 46, 47, 50, 51, 52, 53, 28, 30, 54, 55, 56, 57, 58, 25, 26, 59, 60, 61, 62, 24, 63, 64, 65, 66, 35, 32, 67, 27, 31, 68, 69, 70, 71, 29, 102, 103, 104, 105, 106, 107, 108, 109, 110, 111, 112, 113, 114, 115, 116] (by decide +kernel) (by decide +kernel)
set_option maxRecDepth 20000 in
theorem gX4_tellTo_X3_doAll : GoodIn wsX4_tellTo (wsV RX4 62 RX3 yX3_doAll wsX3_doAll) := goodIn_app (goodIn_of _ (by decide +kernel)) ggX4_tellTo_X3_doAll
theorem dX4_tellTo_0 : decode cX4_tellTo 0 = .ok (.aload_n 0, 1) := by decide +kernel
theorem dX4_tellTo_1 : decode cX4_tellTo 1 = .ok (.iconst 1, 1) := by decide +kernel
theorem dX4_tellTo_2 : decode cX4_tellTo 2 = .ok (.iconst 2, 1) := by decide +kernel
theorem dX4_tellTo_3 : decode cX4_tellTo 3 = .ok (.invokevirtual 42, 3) := by decide +kernel
theorem dX4_tellTo_6 : decode cX4_tellTo 6 = .ok (.aload_n 0, 1) := by decide +kernel
theorem dX4_tellTo_7 : decode cX4_tellTo 7 = .ok (.iconst 3, 1) := by decide +kernel
theorem dX4_tellTo_8 : decode cX4_tellTo 8 = .ok (.iconst 2, 1) := by decide +kernel
theorem dX4_tellTo_9 : decode cX4_tellTo 9 = .ok (.invokevirtual 42, 3) := by decide +kernel
theorem dX4_tellTo_12 : decode cX4_tellTo 12 = .ok (.invokestatic 46, 3) := by decide +kernel
theorem dX4_tellTo_15 : decode cX4_tellTo 15 = .ok (.ifCond .eq 25, 3) := by decide +kernel
theorem dX4_tellTo_18 : decode cX4_tellTo 18 = .ok (.aload_n 1, 1) := by decide +kernel
theorem dX4_tellTo_19 : decode cX4_tellTo 19 = .ok (.aload_n 0, 1) := by decide +kernel
theorem dX4_tellTo_20 : decode cX4_tellTo 20 = .ok (.iconst 1, 1) := by decide +kernel
theorem dX4_tellTo_21 : decode cX4_tellTo 21 = .ok (.iconst 2, 1) := by decide +kernel
theorem dX4_tellTo_22 : decode cX4_tellTo 22 = .ok (.invokevirtual 42, 3) := by decide +kernel
theorem dX4_tellTo_25 : decode cX4_tellTo 25 = .ok (.aload_n 0, 1) := by decide +kernel
theorem dX4_tellTo_26 : decode cX4_tellTo 26 = .ok (.iconst 3, 1) := by decide +kernel
theorem dX4_tellTo_27 : decode cX4_tellTo 27 = .ok (.iconst 2, 1) := by decide +kernel
theorem dX4_tellTo_28 : decode cX4_tellTo 28 = .ok (.invokevirtual 42, 3) := by decide +kernel
theorem dX4_tellTo_31 : decode cX4_tellTo 31 = .ok (.aload_n 0, 1) := by decide +kernel
theorem dX4_tellTo_32 : decode cX4_tellTo 32 = .ok (.iconst 5, 1) := by decide +kernel
theorem dX4_tellTo_33 : decode cX4_tellTo 33 = .ok (.iconst 1, 1) := by decide +kernel
theorem dX4_tellTo_34 : decode cX4_tellTo 34 = .ok (.invokevirtual 42, 3) := by decide +kernel
theorem dX4_tellTo_37 : decode cX4_tellTo 37 = .ok (.invokevirtual 50, 3) := by decide +kernel
theorem dX4_tellTo_40 : decode cX4_tellTo 40 = .ok (.iconst 0, 1) := by decide +kernel
theorem dX4_tellTo_41 : decode cX4_tellTo 41 = .ok (.istore_n 2, 1) := by decide +kernel
theorem dX4_tellTo_42 : decode cX4_tellTo 42 = .ok (.bipush 6, 2) := by decide +kernel
theorem dX4_tellTo_44 : decode cX4_tellTo 44 = .ok (.istore_n 3, 1) := by decide +kernel
theorem dX4_tellTo_45 : decode cX4_tellTo 45 = .ok (.bipush 6, 2) := by decide +kernel
theorem dX4_tellTo_47 : decode cX4_tellTo 47 = .ok (.istore 4, 2) := by decide +kernel
theorem dX4_tellTo_49 : decode cX4_tellTo 49 = .ok (.iload 4, 2) := by decide +kernel
theorem dX4_tellTo_51 : decode cX4_tellTo 51 = .ok (.aload_n 0, 1) := by decide +kernel
theorem dX4_tellTo_52 : decode cX4_tellTo 52 = .ok (.getfield 15, 3) := by decide +kernel
theorem dX4_tellTo_55 : decode cX4_tellTo 55 = .ok (.if_icmp .ge 141, 3) := by decide +kernel
theorem dX4_tellTo_58 : decode cX4_tellTo 58 = .ok (.iload 4, 2) := by decide +kernel
theorem dX4_tellTo_60 : decode cX4_tellTo 60 = .ok (.iload_n 3, 1) := by decide +kernel
theorem dX4_tellTo_61 : decode cX4_tellTo 61 = .ok (.if_icmp .ne 129, 3) := by decide +kernel
theorem dX4_tellTo_64 : decode cX4_tellTo 64 = .ok (.iload 4, 2) := by decide +kernel
theorem dX4_tellTo_66 : decode cX4_tellTo 66 = .ok (.aload_n 0, 1) := by decide +kernel
theorem dX4_tellTo_67 : decode cX4_tellTo 67 = .ok (.iload 4, 2) := by decide +kernel
theorem dX4_tellTo_69 : decode cX4_tellTo 69 = .ok (.invokevirtual 31, 3) := by decide +kernel
theorem dX4_tellTo_72 : decode cX4_tellTo 72 = .ok (.iadd, 1) := by decide +kernel
theorem dX4_tellTo_73 : decode cX4_tellTo 73 = .ok (.istore_n 3, 1) := by decide +kernel
theorem dX4_tellTo_74 : decode cX4_tellTo 74 = .ok (.aload_n 0, 1) := by decide +kernel
theorem dX4_tellTo_75 : decode cX4_tellTo 75 = .ok (.iload 4, 2) := by decide +kernel
theorem dX4_tellTo_77 : decode cX4_tellTo 77 = .ok (.invokevirtual 34, 3) := by decide +kernel
theorem dX4_tellTo_80 : decode cX4_tellTo 80 = .ok (.lookupswitch 82 #[(104, 55), (119, 28)], 28) := by decide +kernel
theorem dX4_tellTo_108 : decode cX4_tellTo 108 = .ok (.aload_n 1, 1) := by decide +kernel
theorem dX4_tellTo_109 : decode cX4_tellTo 109 = .ok (.aload_n 0, 1) := by decide +kernel
theorem dX4_tellTo_110 : decode cX4_tellTo 110 = .ok (.iload 4, 2) := by decide +kernel
theorem dX4_tellTo_112 : decode cX4_tellTo 112 = .ok (.iconst 1, 1) := by decide +kernel
theorem dX4_tellTo_113 : decode cX4_tellTo 113 = .ok (.iadd, 1) := by decide +kernel
theorem dX4_tellTo_114 : decode cX4_tellTo 114 = .ok (.iconst 2, 1) := by decide +kernel
theorem dX4_tellTo_115 : decode cX4_tellTo 115 = .ok (.invokevirtual 42, 3) := by decide +kernel
theorem dX4_tellTo_118 : decode cX4_tellTo 118 = .ok (.aload_n 0, 1) := by decide +kernel
theorem dX4_tellTo_119 : decode cX4_tellTo 119 = .ok (.iload 4, 2) := by decide +kernel
theorem dX4_tellTo_121 : decode cX4_tellTo 121 = .ok (.iconst 3, 1) := by decide +kernel
theorem dX4_tellTo_122 : decode cX4_tellTo 122 = .ok (.iadd, 1) := by decide +kernel
theorem dX4_tellTo_123 : decode cX4_tellTo 123 = .ok (.iconst 3, 1) := by decide +kernel
theorem dX4_tellTo_124 : decode cX4_tellTo 124 = .ok (.invokevirtual 42, 3) := by decide +kernel
theorem dX4_tellTo_127 : decode cX4_tellTo 127 = .ok (.invokevirtual 56, 3) := by decide +kernel
theorem dX4_tellTo_130 : decode cX4_tellTo 130 = .ok (.istore 5, 2) := by decide +kernel
theorem dX4_tellTo_132 : decode cX4_tellTo 132 = .ok (.goto 45, 3) := by decide +kernel
theorem dX4_tellTo_135 : decode cX4_tellTo 135 = .ok (.aload_n 1, 1) := by decide +kernel
theorem dX4_tellTo_136 : decode cX4_tellTo 136 = .ok (.aload_n 0, 1) := by decide +kernel
theorem dX4_tellTo_137 : decode cX4_tellTo 137 = .ok (.iload 4, 2) := by decide +kernel
theorem dX4_tellTo_139 : decode cX4_tellTo 139 = .ok (.iconst 1, 1) := by decide +kernel
theorem dX4_tellTo_140 : decode cX4_tellTo 140 = .ok (.iadd, 1) := by decide +kernel
theorem dX4_tellTo_141 : decode cX4_tellTo 141 = .ok (.iconst 2, 1) := by decide +kernel
theorem dX4_tellTo_142 : decode cX4_tellTo 142 = .ok (.invokevirtual 42, 3) := by decide +kernel
theorem dX4_tellTo_145 : decode cX4_tellTo 145 = .ok (.aload_n 0, 1) := by decide +kernel
theorem dX4_tellTo_146 : decode cX4_tellTo 146 = .ok (.iload 4, 2) := by decide +kernel
theorem dX4_tellTo_148 : decode cX4_tellTo 148 = .ok (.iconst 3, 1) := by decide +kernel
theorem dX4_tellTo_149 : decode cX4_tellTo 149 = .ok (.iadd, 1) := by decide +kernel
theorem dX4_tellTo_150 : decode cX4_tellTo 150 = .ok (.iconst 2, 1) := by decide +kernel
theorem dX4_tellTo_151 : decode cX4_tellTo 151 = .ok (.invokevirtual 42, 3) := by decide +kernel
theorem dX4_tellTo_154 : decode cX4_tellTo 154 = .ok (.invokevirtual 59, 3) := by decide +kernel
theorem dX4_tellTo_157 : decode cX4_tellTo 157 = .ok (.istore 5, 2) := by decide +kernel
theorem dX4_tellTo_159 : decode cX4_tellTo 159 = .ok (.goto 18, 3) := by decide +kernel
theorem dX4_tellTo_162 : decode cX4_tellTo 162 = .ok (.aload_n 1, 1) := by decide +kernel
theorem dX4_tellTo_163 : decode cX4_tellTo 163 = .ok (.aload_n 0, 1) := by decide +kernel
theorem dX4_tellTo_164 : decode cX4_tellTo 164 = .ok (.iload 4, 2) := by decide +kernel
theorem dX4_tellTo_166 : decode cX4_tellTo 166 = .ok (.iconst 1, 1) := by decide +kernel
theorem dX4_tellTo_167 : decode cX4_tellTo 167 = .ok (.iadd, 1) := by decide +kernel
theorem dX4_tellTo_168 : decode cX4_tellTo 168 = .ok (.iconst 1, 1) := by decide +kernel
theorem dX4_tellTo_169 : decode cX4_tellTo 169 = .ok (.invokevirtual 42, 3) := by decide +kernel
theorem dX4_tellTo_172 : decode cX4_tellTo 172 = .ok (.invokevirtual 62, 3) := by decide +kernel
theorem dX4_tellTo_175 : decode cX4_tellTo 175 = .ok (.istore 5, 2) := by decide +kernel
theorem dX4_tellTo_177 : decode cX4_tellTo 177 = .ok (.iload_n 2, 1) := by decide +kernel
theorem dX4_tellTo_178 : decode cX4_tellTo 178 = .ok (.iload 5, 2) := by decide +kernel
theorem dX4_tellTo_180 : decode cX4_tellTo 180 = .ok (.ifCond .eq 7, 3) := by decide +kernel
theorem dX4_tellTo_183 : decode cX4_tellTo 183 = .ok (.iconst 0, 1) := by decide +kernel
theorem dX4_tellTo_184 : decode cX4_tellTo 184 = .ok (.goto 4, 3) := by decide +kernel
theorem dX4_tellTo_187 : decode cX4_tellTo 187 = .ok (.iconst 1, 1) := by decide +kernel
theorem dX4_tellTo_188 : decode cX4_tellTo 188 = .ok (.iadd, 1) := by decide +kernel
theorem dX4_tellTo_189 : decode cX4_tellTo 189 = .ok (.istore_n 2, 1) := by decide +kernel
theorem dX4_tellTo_190 : decode cX4_tellTo 190 = .ok (.iinc 4 1, 3) := by decide +kernel
theorem dX4_tellTo_193 : decode cX4_tellTo 193 = .ok (.goto (-144), 3) := by decide +kernel
theorem dX4_tellTo_196 : decode cX4_tellTo 196 = .ok (.iload_n 2, 1) := by decide +kernel
theorem dX4_tellTo_197 : decode cX4_tellTo 197 = .ok (.ireturn, 1) := by decide +kernel
end
section
set_option maxRecDepth 20000 in
theorem ggX5_init_X4_init : GoodIn wsX5_init wsX4_init := goodIn_r _ [22, 23, 2, 3, 24, 25, 46, 47] (by decide +kernel) (by decide +kernel)
set_option maxRecDepth 20000 in
theorem gX5_init_X4_init_n9 : GoodIn wsX5_init (wsX4_init) := ggX5_init_X4_init
set_option maxRecDepth 20000 in
theorem ggX5_init_X3_init : GoodIn wsX5_init wsX3_init := goodIn_r _ [27, 28, 2, 3, 29, 30, 31, 32, 33, 53, 54, 55, 56, 57, 58, 59, 60, 61, 62, 63, 64, 65, 66, 67] (by decide +kernel) (by decide +kernel)
set_option maxRecDepth 20000 in
theorem gX5_init_X3_init_n18 : GoodIn wsX5_init (wsX3_init) := ggX5_init_X3_init
set_option maxRecDepth 20000 in
theorem ggX5_init_X0_init : GoodIn wsX5_init wsX0_init := goodIn_r _ [35, 36, 2, 3, 37, 38, 68, 69, 70] (by decide +kernel) (by decide +kernel)
set_option maxRecDepth 20000 in
theorem gX5_init_X0_init_n28 : GoodIn wsX5_init (wsX0_init) := ggX5_init_X0_init
set_option maxRecDepth 20000 in
theorem ggX5_init_X2_init : GoodIn wsX5_init wsX2_init := goodIn_r _ [40, 41, 2, 3, 42, 43, 44, 45, 71, 72] (by decide +kernel) (by decide +kernel)
set_option maxRecDepth 20000 in
theorem gX5_init_X2_init_n35 : GoodIn wsX5_init (wsX2_init) := ggX5_init_X2_init
theorem dX5_init_0 : decode cX5_init 0 = .ok (.aload_n 0, 1) := by decide +kernel
theorem dX5_init_1 : decode cX5_init 1 = .ok (.invokespecial 1, 3) := by decide +kernel
theorem dX5_init_4 : decode cX5_init 4 = .ok (.aload_n 0, 1) := by decide +kernel
theorem dX5_init_5 : decode cX5_init 5 = .ok (.new 7, 3) := by decide +kernel
theorem dX5_init_8 : decode cX5_init 8 = .ok (.dup, 1) := by decide +kernel
theorem dX5_init_9 : decode cX5_init 9 = .ok (.invokespecial 9, 3) := by decide +kernel
theorem dX5_init_12 : decode cX5_init 12 = .ok (.putfield 10, 3) := by decide +kernel
theorem dX5_init_15 : decode cX5_init 15 = .ok (.aload_n 0, 1) := by decide +kernel
theorem dX5_init_16 : decode cX5_init 16 = .ok (.new 16, 3) := by decide +kernel
theorem dX5_init_19 : decode cX5_init 19 = .ok (.dup, 1) := by decide +kernel
theorem dX5_init_20 : decode cX5_init 20 = .ok (.invokespecial 18, 3) := by decide +kernel
theorem dX5_init_23 : decode cX5_init 23 = .ok (.putfield 19, 3) := by decide +kernel
theorem dX5_init_26 : decode cX5_init 26 = .ok (.aload_n 0, 1) := by decide +kernel
theorem dX5_init_27 : decode cX5_init 27 = .ok (.new 16, 3) := by decide +kernel
theorem dX5_init_30 : decode cX5_init 30 = .ok (.dup, 1) := by decide +kernel
theorem dX5_init_31 : decode cX5_init 31 = .ok (.invokespecial 18, 3) := by decide +kernel
theorem dX5_init_34 : decode cX5_init 34 = .ok (.putfield 23, 3) := by decide +kernel
theorem dX5_init_37 : decode cX5_init 37 = .ok (.aload_n 0, 1) := by decide +kernel
theorem dX5_init_38 : decode cX5_init 38 = .ok (.new 26, 3) := by decide +kernel
theorem dX5_init_41 : decode cX5_init 41 = .ok (.dup, 1) := by decide +kernel
theorem dX5_init_42 : decode cX5_init 42 = .ok (.invokespecial 28, 3) := by decide +kernel
theorem dX5_init_45 : decode cX5_init 45 = .ok (.putfield 29, 3) := by decide +kernel
theorem dX5_init_48 : decode cX5_init 48 = .ok (.aload_n 0, 1) := by decide +kernel
theorem dX5_init_49 : decode cX5_init 49 = .ok (.new 33, 3) := by decide +kernel
theorem dX5_init_52 : decode cX5_init 52 = .ok (.dup, 1) := by decide +kernel
theorem dX5_init_53 : decode cX5_init 53 = .ok (.invokespecial 35, 3) := by decide +kernel
theorem dX5_init_56 : decode cX5_init 56 = .ok (.putfield 36, 3) := by decide +kernel
theorem dX5_init_59 : decode cX5_init 59 = .ok (.return_, 1) := by decide +kernel
set_option maxRecDepth 20000 in
theorem ggX5_append_X4_isFull : GoodIn wsX5_append wsX4_isFull := goodIn_r _ [10, 11, 23, 24] (by decide +kernel) (by decide +kernel)
set_option maxRecDepth 20000 in
theorem gX5_append_X4_isFull : GoodIn wsX5_append (wsV RX5 47 RX4 yX4_isFull wsX4_isFull) := goodIn_app (goodIn_of _ (by decide +kernel)) ggX5_append_X4_isFull
set_option maxRecDepth 20000 in
theorem ggX5_append_X4_add : GoodIn wsX5_append wsX4_add := goodIn_r _ [15, 16, 11, 17, 7, 8, 9, 10, 23, 24] (by decide +kernel) (by decide +kernel)
set_option maxRecDepth 20000 in
theorem gX5_append_X4_add : GoodIn wsX5_append (wsV RX5 56 RX4 yX4_add wsX4_add) := goodIn_app (goodIn_of _ (by decide +kernel)) ggX5_append_X4_add
theorem dX5_append_0 : decode cX5_append 0 = .ok (.iload_n 1, 1) := by decide +kernel
theorem dX5_append_1 : decode cX5_append 1 = .ok (.ifCond .lt 10, 3) := by decide +kernel
theorem dX5_append_4 : decode cX5_append 4 = .ok (.iload_n 1, 1) := by decide +kernel
theorem dX5_append_5 : decode cX5_append 5 = .ok (.sipush 255, 3) := by decide +kernel
theorem dX5_append_8 : decode cX5_append 8 = .ok (.if_icmp .le 13, 3) := by decide +kernel
theorem dX5_append_11 : decode cX5_append 11 = .ok (.new 40, 3) := by decide +kernel
theorem dX5_append_14 : decode cX5_append 14 = .ok (.dup, 1) := by decide +kernel
theorem dX5_append_15 : decode cX5_append 15 = .ok (.ldc 42, 2) := by decide +kernel
theorem dX5_append_17 : decode cX5_append 17 = .ok (.invokespecial 44, 3) := by decide +kernel
theorem dX5_append_20 : decode cX5_append 20 = .ok (.athrow, 1) := by decide +kernel
theorem dX5_append_21 : decode cX5_append 21 = .ok (.aload_n 0, 1) := by decide +kernel
theorem dX5_append_22 : decode cX5_append 22 = .ok (.getfield 10, 3) := by decide +kernel
theorem dX5_append_25 : decode cX5_append 25 = .ok (.invokevirtual 47, 3) := by decide +kernel
theorem dX5_append_28 : decode cX5_append 28 = .ok (.ifCond .eq 13, 3) := by decide +kernel
theorem dX5_append_31 : decode cX5_append 31 = .ok (.new 51, 3) := by decide +kernel
theorem dX5_append_34 : decode cX5_append 34 = .ok (.dup, 1) := by decide +kernel
theorem dX5_append_35 : decode cX5_append 35 = .ok (.ldc 53, 2) := by decide +kernel
theorem dX5_append_37 : decode cX5_append 37 = .ok (.invokespecial 55, 3) := by decide +kernel
theorem dX5_append_40 : decode cX5_append 40 = .ok (.athrow, 1) := by decide +kernel
theorem dX5_append_41 : decode cX5_append 41 = .ok (.aload_n 0, 1) := by decide +kernel
theorem dX5_append_42 : decode cX5_append 42 = .ok (.getfield 10, 3) := by decide +kernel
theorem dX5_append_45 : decode cX5_append 45 = .ok (.iload_n 1, 1) := by decide +kernel
theorem dX5_append_46 : decode cX5_append 46 = .ok (.i2c, 1) := by decide +kernel
theorem dX5_append_47 : decode cX5_append 47 = .ok (.invokevirtual 56, 3) := by decide +kernel
theorem dX5_append_50 : decode cX5_append 50 = .ok (.ireturn, 1) := by decide +kernel
set_option maxRecDepth 20000 in
theorem ggX5_load_X4_firstError : GoodIn wsX5_load wsX4_firstError := goodIn_r _ [11, 12, 13, 14, 15, 10, 16, 17, 18, 19, 20, 21, 22, 23, 24, 25, 26, 27, 28, 29, 30, 31, 32, 33, 148, 149] (by decide +kernel) (by decide +kernel)
set_option maxRecDepth 20000 in
theorem gX5_load_X4_firstError : GoodIn wsX5_load (wsV RX5 64 RX4 yX4_firstError wsX4_firstError) := goodIn_app (goodIn_of _ (by decide +kernel)) ggX5_load_X4_firstError
set_option maxRecDepth 20000 in
theorem ggX5_load_X0_forgetAll : GoodIn wsX5_load wsX0_forgetAll := goodIn_r _ [38, 39, 150, 151, 152] (by decide +kernel) (by decide +kernel)
set_option maxRecDepth 20000 in
theorem gX5_load_X0_forgetAll : GoodIn wsX5_load (wsV RX5 69 RX0 yX0_forgetAll wsX0_forgetAll) := goodIn_app (goodIn_of _ (by decide +kernel)) ggX5_load_X0_forgetAll
set_option maxRecDepth 20000 in
theorem ggX5_load_X2_forgetAll : GoodIn wsX5_load wsX2_forgetAll := goodIn_r _ [44, 45, 153, 154] (by decide +kernel) (by decide +kernel)
set_option maxRecDepth 20000 in
theorem gX5_load_X2_forgetAll : GoodIn wsX5_load (wsV RX5 72 RX2 yX2_forgetAll wsX2_forgetAll) := goodIn_app (goodIn_of _ (by decide +kernel)) ggX5_load_X2_forgetAll
set_option maxRecDepth 20000 in
theorem ggX5_load_X3_beginAnew : GoodIn wsX5_load wsX3_beginAnew := goodIn_r _ [50, 51, 52, 53, 54, 55, 49, 56, 57, 58, 59, 60, 61, 62, 63, 64, 65, 66, 67, 68, 69, 155, 156, 157, 158, 159, 160, 161, 162, 163, 164, 165, 166, 167, 168, 169] (by decide +kernel) (by decide +kernel)
set_option maxRecDepth 20000 in
theorem gX5_load_X3_beginAnew : GoodIn wsX5_load (wsV RX5 73 RX3 yX3_beginAnew wsX3_beginAnew) := goodIn_app (goodIn_of _ (by decide +kernel)) ggX5_load_X3_beginAnew
set_option maxRecDepth 20000 in
theorem ggX5_load_X4_tellTo : GoodIn wsX5_load wsX4_tellTo := goodIn_r _ [73, 12, 74, 75, 76, 10, 77, 17, 18, 19, 20, 21, 78, 79, 80, 81, 82, 83, 84, 54, 55, 49, 56, 57, 58, 59, 60, 61, 62, 63, 64, 65, 66, 67, 68, 69, 30, 31, 32, 33, 85, 86, 87, 88, 89, 90, 91, 92, 93, 94, 95, 96, 97, 98, 52, 99, 100, 101, 102, 103, 104, 105, 106, 107, 108, 109, 110, 51, 111, 112, 113, 114, 115, 116, 117, 118, 119, 120, 121, 122, 123, 124, 125, 126, 127, 128, 129, 130, 131, 132, 133, 134, 135, 136, 137, 138, 139, 140, 141, 142, 148, 149, 155, 156, 157, 158, 159, 160, 161, 162, 163, 164, 165, 166, 167, 168, 169] (by decide +kernel) (by decide +kernel)
set_option maxRecDepth 20000 in
theorem gX5_load_X4_tellTo : GoodIn wsX5_load (wsV RX5 76 RX4 yX4_tellTo wsX4_tellTo) := goodIn_app (goodIn_of _ (by decide +kernel)) ggX5_load_X4_tellTo
theorem dX5_load_0 : decode cX5_load 0 = .ok (.aload_n 0, 1) := by decide +kernel
theorem dX5_load_1 : decode cX5_load 1 = .ok (.getfield 10, 3) := by decide +kernel
theorem dX5_load_4 : decode cX5_load 4 = .ok (.invokevirtual 64, 3) := by decide +kernel
theorem dX5_load_7 : decode cX5_load 7 = .ok (.iconst (-1), 1) := by decide +kernel
theorem dX5_load_8 : decode cX5_load 8 = .ok (.if_icmp .eq 13, 3) := by decide +kernel
theorem dX5_load_11 : decode cX5_load 11 = .ok (.new 51, 3) := by decide +kernel
theorem dX5_load_14 : decode cX5_load 14 = .ok (.dup, 1) := by decide +kernel
theorem dX5_load_15 : decode cX5_load 15 = .ok (.ldc 67, 2) := by decide +kernel
theorem dX5_load_17 : decode cX5_load 17 = .ok (.invokespecial 55, 3) := by decide +kernel
theorem dX5_load_20 : decode cX5_load 20 = .ok (.athrow, 1) := by decide +kernel
theorem dX5_load_21 : decode cX5_load 21 = .ok (.aload_n 0, 1) := by decide +kernel
theorem dX5_load_22 : decode cX5_load 22 = .ok (.getfield 29, 3) := by decide +kernel
theorem dX5_load_25 : decode cX5_load 25 = .ok (.invokevirtual 69, 3) := by decide +kernel
theorem dX5_load_28 : decode cX5_load 28 = .ok (.aload_n 0, 1) := by decide +kernel
theorem dX5_load_29 : decode cX5_load 29 = .ok (.getfield 36, 3) := by decide +kernel
theorem dX5_load_32 : decode cX5_load 32 = .ok (.invokevirtual 72, 3) := by decide +kernel
theorem dX5_load_35 : decode cX5_load 35 = .ok (.aload_n 0, 1) := by decide +kernel
theorem dX5_load_36 : decode cX5_load 36 = .ok (.getfield 19, 3) := by decide +kernel
theorem dX5_load_39 : decode cX5_load 39 = .ok (.invokevirtual 73, 3) := by decide +kernel
theorem dX5_load_42 : decode cX5_load 42 = .ok (.aload_n 0, 1) := by decide +kernel
theorem dX5_load_43 : decode cX5_load 43 = .ok (.getfield 10, 3) := by decide +kernel
theorem dX5_load_46 : decode cX5_load 46 = .ok (.aload_n 0, 1) := by decide +kernel
theorem dX5_load_47 : decode cX5_load 47 = .ok (.getfield 19, 3) := by decide +kernel
theorem dX5_load_50 : decode cX5_load 50 = .ok (.invokevirtual 76, 3) := by decide +kernel
theorem dX5_load_53 : decode cX5_load 53 = .ok (.ireturn, 1) := by decide +kernel
set_option maxRecDepth 20000 in
theorem ggX5_about_X3_number : GoodIn wsX5_about wsX3_number := goodIn_r _ [8, 9, 10, 11, 12, 13, 14, 15, 16, 17, 18, 19, 20, 21, 7, 22, 23, 24, 25, 26, 27, 28, 29, 30, 31, 32, 33, 34, 40, 41, 42, 43, 44, 45, 46, 47, 48, 49, 50, 51, 52, 53, 54] (by decide +kernel) (by decide +kernel)
set_option maxRecDepth 20000 in
theorem gX5_about_X3_number : GoodIn wsX5_about (wsV RX5 82 RX3 yX3_number wsX3_number) := goodIn_app (goodIn_of _ (by decide +kernel)) ggX5_about_X3_number
theorem dX5_about_0 : decode cX5_about 0 = .ok (.iload_n 1, 1) := by decide +kernel
theorem dX5_about_1 : decode cX5_about 1 = .ok (.ifCond .lt 9, 3) := by decide +kernel
theorem dX5_about_4 : decode cX5_about 4 = .ok (.iload_n 1, 1) := by decide +kernel
theorem dX5_about_5 : decode cX5_about 5 = .ok (.bipush 11, 2) := by decide +kernel
theorem dX5_about_7 : decode cX5_about 7 = .ok (.if_icmp .le 13, 3) := by decide +kernel
theorem dX5_about_10 : decode cX5_about 10 = .ok (.new 40, 3) := by decide +kernel
theorem dX5_about_13 : decode cX5_about 13 = .ok (.dup, 1) := by decide +kernel
theorem dX5_about_14 : decode cX5_about 14 = .ok (.ldc 80, 2) := by decide +kernel
theorem dX5_about_16 : decode cX5_about 16 = .ok (.invokespecial 44, 3) := by decide +kernel
theorem dX5_about_19 : decode cX5_about 19 = .ok (.athrow, 1) := by decide +kernel
theorem dX5_about_20 : decode cX5_about 20 = .ok (.aload_n 0, 1) := by decide +kernel
theorem dX5_about_21 : decode cX5_about 21 = .ok (.getfield 19, 3) := by decide +kernel
theorem dX5_about_24 : decode cX5_about 24 = .ok (.iload_n 1, 1) := by decide +kernel
theorem dX5_about_25 : decode cX5_about 25 = .ok (.invokevirtual 82, 3) := by decide +kernel
theorem dX5_about_28 : decode cX5_about 28 = .ok (.ireturn, 1) := by decide +kernel
set_option maxRecDepth 20000 in
theorem ggX5_read_X5_requireLine : GoodIn wsX5_read wsX5_requireLine := goodIn_ca (goodIn_r _ [6, 7, 8, 1, 9, 10, 11, 12, 13, 14, 21, 22, 23, 24, 25, 26, 27, 28, 29, 30, 31, 32, 33, 34, 35, 36, 37, 38, 39, 40] (by decide +kernel) (by decide +kernel)) (goodIn_sub (fun _ h => List.mem_cons_of_mem _ (List.mem_append_right _ h)) (by decide +kernel))
set_option maxRecDepth 20000 in
theorem gX5_read_X5_requireLine : GoodIn wsX5_read (wsV RX5 86 RX5 yX5_requireLine wsX5_requireLine) := goodIn_app (goodIn_of _ (by decide +kernel)) ggX5_read_X5_requireLine
set_option maxRecDepth 20000 in
theorem ggX5_read_X3_valueOf : GoodIn wsX5_read wsX3_valueOf := goodIn_r _ [18, 19, 20, 10, 11, 12, 13, 14, 26, 27, 28, 29, 30, 31, 32, 33, 34, 35, 36, 37, 38, 39, 40] (by decide +kernel) (by decide +kernel)
set_option maxRecDepth 20000 in
theorem gX5_read_X3_valueOf : GoodIn wsX5_read (wsV RX5 90 RX3 yX3_valueOf wsX3_valueOf) := goodIn_app (goodIn_of _ (by decide +kernel)) ggX5_read_X3_valueOf
theorem dX5_read_0 : decode cX5_read 0 = .ok (.aload_n 0, 1) := by decide +kernel
theorem dX5_read_1 : decode cX5_read 1 = .ok (.iload_n 1, 1) := by decide +kernel
theorem dX5_read_2 : decode cX5_read 2 = .ok (.invokevirtual 86, 3) := by decide +kernel
theorem dX5_read_5 : decode cX5_read 5 = .ok (.aload_n 0, 1) := by decide +kernel
theorem dX5_read_6 : decode cX5_read 6 = .ok (.getfield 19, 3) := by decide +kernel
theorem dX5_read_9 : decode cX5_read 9 = .ok (.iload_n 1, 1) := by decide +kernel
theorem dX5_read_10 : decode cX5_read 10 = .ok (.invokevirtual 90, 3) := by decide +kernel
theorem dX5_read_13 : decode cX5_read 13 = .ok (.ireturn, 1) := by decide +kernel
set_option maxRecDepth 20000 in
theorem ggX5_place_X5_requireLine : GoodIn wsX5_place wsX5_requireLine := goodIn_ca (goodIn_r _ [6, 7, 8, 1, 9, 10, 11, 12, 13, 14, 26, 27, 28, 29, 30, 31, 32, 33, 34, 35, 36, 37, 38, 39, 40, 41, 42, 43, 44, 45] (by decide +kernel) (by decide +kernel)) (goodIn_sub (fun _ h => List.mem_cons_of_mem _ (List.mem_append_right _ h)) (by decide +kernel))
set_option maxRecDepth 20000 in
theorem gX5_place_X5_requireLine : GoodIn wsX5_place (wsV RX5 86 RX5 yX5_requireLine wsX5_requireLine) := goodIn_app (goodIn_of _ (by decide +kernel)) ggX5_place_X5_requireLine
set_option maxRecDepth 20000 in
theorem ggX5_place_X3_placeOf : GoodIn wsX5_place wsX3_placeOf := goodIn_r _ [18, 19, 20, 21, 22, 23, 12, 24, 14, 25, 31, 32, 33, 34, 35, 36, 37, 38, 39, 40, 41, 42, 43, 44, 45] (by decide +kernel) (by decide +kernel)
set_option maxRecDepth 20000 in
theorem gX5_place_X3_placeOf : GoodIn wsX5_place (wsV RX5 93 RX3 yX3_placeOf wsX3_placeOf) := goodIn_app (goodIn_of _ (by decide +kernel)) ggX5_place_X3_placeOf
theorem dX5_place_0 : decode cX5_place 0 = .ok (.aload_n 0, 1) := by decide +kernel
theorem dX5_place_1 : decode cX5_place 1 = .ok (.iload_n 1, 1) := by decide +kernel
theorem dX5_place_2 : decode cX5_place 2 = .ok (.invokevirtual 86, 3) := by decide +kernel
theorem dX5_place_5 : decode cX5_place 5 = .ok (.aload_n 0, 1) := by decide +kernel
theorem dX5_place_6 : decode cX5_place 6 = .ok (.getfield 19, 3) := by decide +kernel
theorem dX5_place_9 : decode cX5_place 9 = .ok (.iload_n 1, 1) := by decide +kernel
theorem dX5_place_10 : decode cX5_place 10 = .ok (.invokevirtual 93, 3) := by decide +kernel
theorem dX5_place_13 : decode cX5_place 13 = .ok (.ireturn, 1) := by decide +kernel
set_option maxRecDepth 20000 in
theorem ggX5_line_X5_requirePlace : GoodIn wsX5_line wsX5_requirePlace := goodIn_ca (goodIn_r _ [6, 7, 8, 1, 9, 10, 11, 12, 13, 14, 26, 27, 28, 29, 30, 31, 32, 33, 34, 35, 36, 37, 38, 39, 40, 41, 42, 43, 44, 45] (by decide +kernel) (by decide +kernel)) (goodIn_sub (fun _ h => List.mem_cons_of_mem _ (List.mem_append_right _ h)) (by decide +kernel))
set_option maxRecDepth 20000 in
theorem gX5_line_X5_requirePlace : GoodIn wsX5_line (wsV RX5 96 RX5 yX5_requirePlace wsX5_requirePlace) := goodIn_app (goodIn_of _ (by decide +kernel)) ggX5_line_X5_requirePlace
set_option maxRecDepth 20000 in
theorem ggX5_line_X3_lineAt : GoodIn wsX5_line wsX3_lineAt := goodIn_r _ [18, 19, 14, 20, 21, 22, 23, 12, 24, 25, 31, 32, 33, 34, 35, 36, 37, 38, 39, 40, 41, 42, 43, 44, 45] (by decide +kernel) (by decide +kernel)
set_option maxRecDepth 20000 in
theorem gX5_line_X3_lineAt : GoodIn wsX5_line (wsV RX5 99 RX3 yX3_lineAt wsX3_lineAt) := goodIn_app (goodIn_of _ (by decide +kernel)) ggX5_line_X3_lineAt
theorem dX5_line_0 : decode cX5_line 0 = .ok (.aload_n 0, 1) := by decide +kernel
theorem dX5_line_1 : decode cX5_line 1 = .ok (.iload_n 1, 1) := by decide +kernel
theorem dX5_line_2 : decode cX5_line 2 = .ok (.invokevirtual 96, 3) := by decide +kernel
theorem dX5_line_5 : decode cX5_line 5 = .ok (.aload_n 0, 1) := by decide +kernel
theorem dX5_line_6 : decode cX5_line 6 = .ok (.getfield 19, 3) := by decide +kernel
theorem dX5_line_9 : decode cX5_line 9 = .ok (.iload_n 1, 1) := by decide +kernel
theorem dX5_line_10 : decode cX5_line 10 = .ok (.invokevirtual 99, 3) := by decide +kernel
theorem dX5_line_13 : decode cX5_line 13 = .ok (.ireturn, 1) := by decide +kernel
set_option maxRecDepth 20000 in
theorem ggX5_wear_X5_requirePlace : GoodIn wsX5_wear wsX5_requirePlace := goodIn_ca (goodIn_r _ [6, 7, 8, 1, 9, 10, 11, 12, 13, 14, 21, 22, 23, 24, 25, 26, 27, 28, 29, 30, 31, 32, 33, 34, 35, 36, 37, 38, 39, 40] (by decide +kernel) (by decide +kernel)) (goodIn_sub (fun _ h => List.mem_cons_of_mem _ (List.mem_append_right _ h)) (by decide +kernel))
set_option maxRecDepth 20000 in
theorem gX5_wear_X5_requirePlace : GoodIn wsX5_wear (wsV RX5 96 RX5 yX5_requirePlace wsX5_requirePlace) := goodIn_app (goodIn_of _ (by decide +kernel)) ggX5_wear_X5_requirePlace
set_option maxRecDepth 20000 in
theorem ggX5_wear_X3_wearOf : GoodIn wsX5_wear wsX3_wearOf := goodIn_r _ [18, 19, 20, 10, 11, 12, 13, 14, 26, 27, 28, 29, 30, 31, 32, 33, 34, 35, 36, 37, 38, 39, 40] (by decide +kernel) (by decide +kernel)
set_option maxRecDepth 20000 in
theorem gX5_wear_X3_wearOf : GoodIn wsX5_wear (wsV RX5 102 RX3 yX3_wearOf wsX3_wearOf) := goodIn_app (goodIn_of _ (by decide +kernel)) ggX5_wear_X3_wearOf
theorem dX5_wear_0 : decode cX5_wear 0 = .ok (.aload_n 0, 1) := by decide +kernel
theorem dX5_wear_1 : decode cX5_wear 1 = .ok (.iload_n 1, 1) := by decide +kernel
theorem dX5_wear_2 : decode cX5_wear 2 = .ok (.invokevirtual 96, 3) := by decide +kernel
theorem dX5_wear_5 : decode cX5_wear 5 = .ok (.aload_n 0, 1) := by decide +kernel
theorem dX5_wear_6 : decode cX5_wear 6 = .ok (.getfield 19, 3) := by decide +kernel
theorem dX5_wear_9 : decode cX5_wear 9 = .ok (.iload_n 1, 1) := by decide +kernel
theorem dX5_wear_10 : decode cX5_wear 10 = .ok (.invokevirtual 102, 3) := by decide +kernel
theorem dX5_wear_13 : decode cX5_wear 13 = .ok (.ireturn, 1) := by decide +kernel
set_option maxRecDepth 20000 in
theorem ggX5_setting_X5_requireSetting : GoodIn wsX5_setting wsX5_requireSetting := goodIn_ca (goodIn_r _ [5, 6, 7] (by decide +kernel) (by decide +kernel)) (goodIn_sub (fun _ h => List.mem_cons_of_mem _ (List.mem_append_right _ h)) (by decide +kernel))
set_option maxRecDepth 20000 in
theorem gX5_setting_X5_requireSetting : GoodIn wsX5_setting (va_wsS RX5 105 yX5_requireSetting wsX5_requireSetting) := goodIn_app (goodIn_of _ (by decide +kernel)) ggX5_setting_X5_requireSetting
set_option maxRecDepth 20000 in
theorem ggX5_setting_X3_settingOf : GoodIn wsX5_setting wsX3_settingOf := goodIn_r _ [12, 13, 14, 20, 21, 22, 23, 24, 25, 26, 27, 28, 29, 30, 31, 32, 33, 34] (by decide +kernel) (by decide +kernel)
set_option maxRecDepth 20000 in
theorem gX5_setting_X3_settingOf : GoodIn wsX5_setting (wsV RX5 108 RX3 yX3_settingOf wsX3_settingOf) := goodIn_app (goodIn_of _ (by decide +kernel)) ggX5_setting_X3_settingOf
theorem dX5_setting_0 : decode cX5_setting 0 = .ok (.iload_n 1, 1) := by decide +kernel
theorem dX5_setting_1 : decode cX5_setting 1 = .ok (.invokestatic 105, 3) := by decide +kernel
theorem dX5_setting_4 : decode cX5_setting 4 = .ok (.aload_n 0, 1) := by decide +kernel
theorem dX5_setting_5 : decode cX5_setting 5 = .ok (.getfield 19, 3) := by decide +kernel
theorem dX5_setting_8 : decode cX5_setting 8 = .ok (.iload_n 1, 1) := by decide +kernel
theorem dX5_setting_9 : decode cX5_setting 9 = .ok (.invokevirtual 108, 3) := by decide +kernel
theorem dX5_setting_12 : decode cX5_setting 12 = .ok (.ireturn, 1) := by decide +kernel
set_option maxRecDepth 20000 in
theorem ggX5_make_X5_isShape : GoodIn wsX5_make wsX5_isShape := goodIn_r _ [8, 9, 10, 7, 11] (by decide +kernel) (by decide +kernel)
set_option maxRecDepth 20000 in
theorem gX5_make_X5_isShape : GoodIn wsX5_make (va_wsS RX5 111 yX5_isShape wsX5_isShape) := goodIn_app (goodIn_of _ (by decide +kernel)) ggX5_make_X5_isShape
set_option maxRecDepth 20000 in
theorem ggX5_make_X0_remember : GoodIn wsX5_make wsX0_remember := goodIn_r _ [16, 17, 18, 19, 20, 21, 22, 23, 24, 25, 26, 27, 28, 29, 30, 31, 32, 33, 34, 35, 36, 37, 38, 39, 40, 41, 42, 43, 44, 45, 46, 47, 48, 49, 50, 51, 52, 53, 54, 55, 73, 74, 75, 76, 77, 78, 79, 80, 81, 82, 83, 84, 85, 86, 87, 88, 89, 90] (by decide +kernel) (by decide +kernel)
set_option maxRecDepth 20000 in
theorem gX5_make_X0_remember : GoodIn wsX5_make (wsV RX5 119 RX0 yX0_remember wsX0_remember) := goodIn_app (goodIn_of _ (by decide +kernel)) ggX5_make_X0_remember
set_option maxRecDepth 20000 in
theorem ggX5_make_X3_begin : GoodIn wsX5_make wsX3_begin := goodIn_r _ [59, 41, 42, 43, 44, 45, 46, 47, 48, 49, 50, 51, 35, 36, 76, 77, 78, 79, 80, 81, 82, 83, 84, 85, 86, 87, 88, 89, 90] (by decide +kernel) (by decide +kernel)
set_option maxRecDepth 20000 in
theorem gX5_make_X3_begin : GoodIn wsX5_make (wsV RX5 123 RX3 yX3_begin wsX3_begin) := goodIn_app (goodIn_of _ (by decide +kernel)) ggX5_make_X3_begin
set_option maxRecDepth 20000 in
theorem ggX5_make_X3_placeOf : GoodIn wsX5_make wsX3_placeOf := goodIn_r _ [63, 43, 44, 64, 65, 66, 21, 67, 41, 42, 76, 77, 78, 79, 80, 81, 82, 83, 84, 85, 86, 87, 88, 89, 90] (by decide +kernel) (by decide +kernel)
set_option maxRecDepth 20000 in
theorem gX5_make_X3_placeOf : GoodIn wsX5_make (wsV RX5 93 RX3 yX3_placeOf wsX3_placeOf) := goodIn_app (goodIn_of _ (by decide +kernel)) ggX5_make_X3_placeOf
theorem dX5_make_0 : decode cX5_make 0 = .ok (.iload_n 1, 1) := by decide +kernel
theorem dX5_make_1 : decode cX5_make 1 = .ok (.iload_n 2, 1) := by decide +kernel
theorem dX5_make_2 : decode cX5_make 2 = .ok (.invokestatic 111, 3) := by decide +kernel
theorem dX5_make_5 : decode cX5_make 5 = .ok (.ifCond .ne 13, 3) := by decide +kernel
theorem dX5_make_8 : decode cX5_make 8 = .ok (.new 40, 3) := by decide +kernel
theorem dX5_make_11 : decode cX5_make 11 = .ok (.dup, 1) := by decide +kernel
theorem dX5_make_12 : decode cX5_make 12 = .ok (.ldc 115, 2) := by decide +kernel
theorem dX5_make_14 : decode cX5_make 14 = .ok (.invokespecial 44, 3) := by decide +kernel
theorem dX5_make_17 : decode cX5_make 17 = .ok (.athrow, 1) := by decide +kernel
theorem dX5_make_18 : decode cX5_make 18 = .ok (.iload_n 3, 1) := by decide +kernel
theorem dX5_make_19 : decode cX5_make 19 = .ok (.ifCond .lt 8, 3) := by decide +kernel
theorem dX5_make_22 : decode cX5_make 22 = .ok (.iload_n 3, 1) := by decide +kernel
theorem dX5_make_23 : decode cX5_make 23 = .ok (.iconst 4, 1) := by decide +kernel
theorem dX5_make_24 : decode cX5_make 24 = .ok (.if_icmp .le 13, 3) := by decide +kernel
theorem dX5_make_27 : decode cX5_make 27 = .ok (.new 40, 3) := by decide +kernel
theorem dX5_make_30 : decode cX5_make 30 = .ok (.dup, 1) := by decide +kernel
theorem dX5_make_31 : decode cX5_make 31 = .ok (.ldc 117, 2) := by decide +kernel
theorem dX5_make_33 : decode cX5_make 33 = .ok (.invokespecial 44, 3) := by decide +kernel
theorem dX5_make_36 : decode cX5_make 36 = .ok (.athrow, 1) := by decide +kernel
theorem dX5_make_37 : decode cX5_make 37 = .ok (.aload_n 0, 1) := by decide +kernel
theorem dX5_make_38 : decode cX5_make 38 = .ok (.getfield 29, 3) := by decide +kernel
theorem dX5_make_41 : decode cX5_make 41 = .ok (.aload_n 0, 1) := by decide +kernel
theorem dX5_make_42 : decode cX5_make 42 = .ok (.getfield 19, 3) := by decide +kernel
theorem dX5_make_45 : decode cX5_make 45 = .ok (.invokevirtual 119, 3) := by decide +kernel
theorem dX5_make_48 : decode cX5_make 48 = .ok (.aload_n 0, 1) := by decide +kernel
theorem dX5_make_49 : decode cX5_make 49 = .ok (.getfield 19, 3) := by decide +kernel
theorem dX5_make_52 : decode cX5_make 52 = .ok (.iload_n 1, 1) := by decide +kernel
theorem dX5_make_53 : decode cX5_make 53 = .ok (.iload_n 2, 1) := by decide +kernel
theorem dX5_make_54 : decode cX5_make 54 = .ok (.iload_n 3, 1) := by decide +kernel
theorem dX5_make_55 : decode cX5_make 55 = .ok (.invokevirtual 123, 3) := by decide +kernel
theorem dX5_make_58 : decode cX5_make 58 = .ok (.aload_n 0, 1) := by decide +kernel
theorem dX5_make_59 : decode cX5_make 59 = .ok (.getfield 19, 3) := by decide +kernel
theorem dX5_make_62 : decode cX5_make 62 = .ok (.iconst 1, 1) := by decide +kernel
theorem dX5_make_63 : decode cX5_make 63 = .ok (.invokevirtual 93, 3) := by decide +kernel
theorem dX5_make_66 : decode cX5_make 66 = .ok (.ireturn, 1) := by decide +kernel
set_option maxRecDepth 20000 in
theorem ggX5_write_X5_requireLine : GoodIn wsX5_write wsX5_requireLine := goodIn_ca (goodIn_r _ [12, 13, 14, 5, 15, 16, 17, 18, 19, 20, 87, 88, 89, 90, 91, 92, 93, 94, 95, 96, 97, 98, 99, 100, 101, 102, 103, 104, 105, 106] (by decide +kernel) (by decide +kernel)) (goodIn_sub (fun _ h => List.mem_cons_of_mem _ (List.mem_append_right _ h)) (by decide +kernel))
set_option maxRecDepth 20000 in
theorem gX5_write_X5_requireLine : GoodIn wsX5_write (wsV RX5 86 RX5 yX5_requireLine wsX5_requireLine) := goodIn_app (goodIn_of _ (by decide +kernel)) ggX5_write_X5_requireLine
set_option maxRecDepth 20000 in
theorem ggX5_write_X5_isValue : GoodIn wsX5_write wsX5_isValue := goodIn_r _ [23] (by decide +kernel) (by decide +kernel)
set_option maxRecDepth 20000 in
theorem gX5_write_X5_isValue : GoodIn wsX5_write (va_wsS RX5 127 yX5_isValue wsX5_isValue) := goodIn_app (goodIn_of _ (by decide +kernel)) ggX5_write_X5_isValue
set_option maxRecDepth 20000 in
theorem ggX5_write_X0_remember : GoodIn wsX5_write wsX0_remember := goodIn_r _ [28, 29, 30, 31, 32, 18, 33, 34, 35, 36, 37, 38, 39, 40, 41, 42, 43, 44, 45, 46, 47, 48, 49, 50, 51, 20, 52, 53, 54, 55, 56, 57, 58, 59, 60, 61, 62, 63, 64, 65, 107, 108, 109, 92, 93, 94, 95, 96, 97, 98, 99, 100, 101, 102, 103, 104, 105, 106] (by decide +kernel) (by decide +kernel)
set_option maxRecDepth 20000 in
theorem gX5_write_X0_remember : GoodIn wsX5_write (wsV RX5 119 RX0 yX0_remember wsX0_remember) := goodIn_app (goodIn_of _ (by decide +kernel)) ggX5_write_X0_remember
set_option maxRecDepth 20000 in
theorem ggX5_write_X3_writeLine : GoodIn wsX5_write wsX3_writeLine := goodIn_r _ [69, 46, 56, 58, 61, 44, 70, 16, 17, 18, 19, 20, 71, 72, 73, 74, 53, 54, 75, 76, 77, 78, 52, 79, 80, 81, 82, 47, 60, 43, 55, 59, 83, 84, 85, 86, 57, 92, 93, 94, 95, 96, 97, 98, 99, 100, 101, 102, 103, 104, 105, 106] (by decide +kernel) (by decide +kernel)
set_option maxRecDepth 20000 in
theorem gX5_write_X3_writeLine : GoodIn wsX5_write (wsV RX5 139 RX3 yX3_writeLine wsX3_writeLine) := goodIn_app (goodIn_of _ (by decide +kernel)) ggX5_write_X3_writeLine
theorem dX5_write_0 : decode cX5_write 0 = .ok (.aload_n 0, 1) := by decide +kernel
theorem dX5_write_1 : decode cX5_write 1 = .ok (.iload_n 1, 1) := by decide +kernel
theorem dX5_write_2 : decode cX5_write 2 = .ok (.invokevirtual 86, 3) := by decide +kernel
theorem dX5_write_5 : decode cX5_write 5 = .ok (.iload_n 2, 1) := by decide +kernel
theorem dX5_write_6 : decode cX5_write 6 = .ok (.invokestatic 127, 3) := by decide +kernel
theorem dX5_write_9 : decode cX5_write 9 = .ok (.ifCond .ne 13, 3) := by decide +kernel
theorem dX5_write_12 : decode cX5_write 12 = .ok (.new 40, 3) := by decide +kernel
theorem dX5_write_15 : decode cX5_write 15 = .ok (.dup, 1) := by decide +kernel
theorem dX5_write_16 : decode cX5_write 16 = .ok (.ldc 131, 2) := by decide +kernel
theorem dX5_write_18 : decode cX5_write 18 = .ok (.invokespecial 44, 3) := by decide +kernel
theorem dX5_write_21 : decode cX5_write 21 = .ok (.athrow, 1) := by decide +kernel
theorem dX5_write_22 : decode cX5_write 22 = .ok (.aload_n 0, 1) := by decide +kernel
theorem dX5_write_23 : decode cX5_write 23 = .ok (.getfield 19, 3) := by decide +kernel
theorem dX5_write_26 : decode cX5_write 26 = .ok (.getfield 133, 3) := by decide +kernel
theorem dX5_write_29 : decode cX5_write 29 = .ok (.ifCond .eq 13, 3) := by decide +kernel
theorem dX5_write_32 : decode cX5_write 32 = .ok (.new 51, 3) := by decide +kernel
theorem dX5_write_35 : decode cX5_write 35 = .ok (.dup, 1) := by decide +kernel
theorem dX5_write_36 : decode cX5_write 36 = .ok (.ldc 137, 2) := by decide +kernel
theorem dX5_write_38 : decode cX5_write 38 = .ok (.invokespecial 55, 3) := by decide +kernel
theorem dX5_write_41 : decode cX5_write 41 = .ok (.athrow, 1) := by decide +kernel
theorem dX5_write_42 : decode cX5_write 42 = .ok (.aload_n 0, 1) := by decide +kernel
theorem dX5_write_43 : decode cX5_write 43 = .ok (.getfield 29, 3) := by decide +kernel
theorem dX5_write_46 : decode cX5_write 46 = .ok (.aload_n 0, 1) := by decide +kernel
theorem dX5_write_47 : decode cX5_write 47 = .ok (.getfield 19, 3) := by decide +kernel
theorem dX5_write_50 : decode cX5_write 50 = .ok (.invokevirtual 119, 3) := by decide +kernel
theorem dX5_write_53 : decode cX5_write 53 = .ok (.aload_n 0, 1) := by decide +kernel
theorem dX5_write_54 : decode cX5_write 54 = .ok (.getfield 19, 3) := by decide +kernel
theorem dX5_write_57 : decode cX5_write 57 = .ok (.iload_n 1, 1) := by decide +kernel
theorem dX5_write_58 : decode cX5_write 58 = .ok (.iload_n 2, 1) := by decide +kernel
theorem dX5_write_59 : decode cX5_write 59 = .ok (.invokevirtual 139, 3) := by decide +kernel
theorem dX5_write_62 : decode cX5_write 62 = .ok (.ireturn, 1) := by decide +kernel
set_option maxRecDepth 20000 in
theorem ggX5_hammer_X5_requireLine : GoodIn wsX5_hammer wsX5_requireLine := goodIn_ca (goodIn_r _ [7, 8, 9, 2, 10, 11, 12, 13, 14, 15, 95, 96, 97, 98, 99, 100, 101, 102, 103, 104, 105, 106, 107, 108, 109, 110, 111, 112, 113, 114] (by decide +kernel) (by decide +kernel)) (goodIn_sub (fun _ h => List.mem_cons_of_mem _ (List.mem_append_left _ (List.mem_append_right _ h))) (by decide +kernel))
set_option maxRecDepth 20000 in
theorem gX5_hammer_X5_requireLine : GoodIn wsX5_hammer (wsV RX5 86 RX5 yX5_requireLine wsX5_requireLine) := goodIn_app (goodIn_of _ (by decide +kernel)) ggX5_hammer_X5_requireLine
set_option maxRecDepth 20000 in
theorem ggX5_hammer_X5_requireHammered : GoodIn wsX5_hammer wsX5_requireHammered := goodIn_ca (goodIn_r _ [18, 19, 20, 21, 22, 6, 23] (by decide +kernel) (by decide +kernel)) (goodIn_sub (fun _ h => List.mem_cons_of_mem _ (List.mem_append_right _ h)) (by decide +kernel))
set_option maxRecDepth 20000 in
theorem gX5_hammer_X5_requireHammered : GoodIn wsX5_hammer (va_wsS RX5 143 yX5_requireHammered wsX5_requireHammered) := goodIn_app (goodIn_of _ (by decide +kernel)) ggX5_hammer_X5_requireHammered
set_option maxRecDepth 20000 in
theorem ggX5_hammer_X0_remember : GoodIn wsX5_hammer wsX0_remember := goodIn_r _ [28, 29, 30, 31, 32, 13, 33, 34, 35, 36, 37, 38, 39, 40, 41, 42, 43, 44, 45, 46, 47, 48, 49, 50, 51, 15, 52, 53, 54, 55, 56, 57, 58, 59, 60, 61, 62, 63, 64, 65, 115, 116, 117, 100, 101, 102, 103, 104, 105, 106, 107, 108, 109, 110, 111, 112, 113, 114] (by decide +kernel) (by decide +kernel)
set_option maxRecDepth 20000 in
theorem gX5_hammer_X0_remember : GoodIn wsX5_hammer (wsV RX5 119 RX0 yX0_remember wsX0_remember) := goodIn_app (goodIn_of _ (by decide +kernel)) ggX5_hammer_X0_remember
set_option maxRecDepth 20000 in
theorem ggX5_hammer_X3_hammerLine : GoodIn wsX5_hammer wsX3_hammerLine := goodIn_r _ [69, 61, 70, 71, 72, 13, 73, 46, 74, 11, 12, 14, 15, 75, 76, 77, 78, 56, 58, 44, 79, 80, 81, 82, 53, 54, 83, 84, 85, 86, 52, 87, 88, 89, 90, 47, 60, 43, 55, 59, 91, 92, 93, 94, 57, 100, 101, 102, 103, 104, 105, 106, 107, 108, 109, 110, 111, 112, 113, 114] (by decide +kernel) (by decide +kernel)
set_option maxRecDepth 20000 in
theorem gX5_hammer_X3_hammerLine : GoodIn wsX5_hammer (wsV RX5 146 RX3 yX3_hammerLine wsX3_hammerLine) := goodIn_app (goodIn_of _ (by decide +kernel)) ggX5_hammer_X3_hammerLine
theorem dX5_hammer_0 : decode cX5_hammer 0 = .ok (.aload_n 0, 1) := by decide +kernel
theorem dX5_hammer_1 : decode cX5_hammer 1 = .ok (.iload_n 1, 1) := by decide +kernel
theorem dX5_hammer_2 : decode cX5_hammer 2 = .ok (.invokevirtual 86, 3) := by decide +kernel
theorem dX5_hammer_5 : decode cX5_hammer 5 = .ok (.iload_n 2, 1) := by decide +kernel
theorem dX5_hammer_6 : decode cX5_hammer 6 = .ok (.invokestatic 143, 3) := by decide +kernel
theorem dX5_hammer_9 : decode cX5_hammer 9 = .ok (.aload_n 0, 1) := by decide +kernel
theorem dX5_hammer_10 : decode cX5_hammer 10 = .ok (.getfield 29, 3) := by decide +kernel
theorem dX5_hammer_13 : decode cX5_hammer 13 = .ok (.aload_n 0, 1) := by decide +kernel
theorem dX5_hammer_14 : decode cX5_hammer 14 = .ok (.getfield 19, 3) := by decide +kernel
theorem dX5_hammer_17 : decode cX5_hammer 17 = .ok (.invokevirtual 119, 3) := by decide +kernel
theorem dX5_hammer_20 : decode cX5_hammer 20 = .ok (.aload_n 0, 1) := by decide +kernel
theorem dX5_hammer_21 : decode cX5_hammer 21 = .ok (.getfield 19, 3) := by decide +kernel
theorem dX5_hammer_24 : decode cX5_hammer 24 = .ok (.iload_n 1, 1) := by decide +kernel
theorem dX5_hammer_25 : decode cX5_hammer 25 = .ok (.iload_n 2, 1) := by decide +kernel
theorem dX5_hammer_26 : decode cX5_hammer 26 = .ok (.invokevirtual 146, 3) := by decide +kernel
theorem dX5_hammer_29 : decode cX5_hammer 29 = .ok (.ireturn, 1) := by decide +kernel
set_option maxRecDepth 20000 in
theorem ggX5_all_X5_isRounds : GoodIn wsX5_all wsX5_isRounds := goodIn_r _ [9] (by decide +kernel) (by decide +kernel)
set_option maxRecDepth 20000 in
theorem gX5_all_X5_isRounds : GoodIn wsX5_all (va_wsS RX5 149 yX5_isRounds wsX5_isRounds) := goodIn_app (goodIn_of _ (by decide +kernel)) ggX5_all_X5_isRounds
set_option maxRecDepth 20000 in
theorem ggX5_all_X5_requireStore : GoodIn wsX5_all wsX5_requireStore := goodIn_ca (goodIn_r _ [13, 14, 15, 4, 16, 17, 18, 19, 20, 21, 96, 97, 98, 99, 100, 101, 102, 103, 104, 105, 106, 107, 108, 109, 110, 111, 112, 113, 114, 115] (by decide +kernel) (by decide +kernel)) (goodIn_sub (fun _ h => List.mem_cons_of_mem _ (List.mem_append_right _ h)) (by decide +kernel))
set_option maxRecDepth 20000 in
theorem gX5_all_X5_requireStore : GoodIn wsX5_all (wsV RX5 154 RX5 yX5_requireStore wsX5_requireStore) := goodIn_app (goodIn_of _ (by decide +kernel)) ggX5_all_X5_requireStore
set_option maxRecDepth 20000 in
theorem ggX5_all_X0_remember : GoodIn wsX5_all wsX0_remember := goodIn_r _ [26, 27, 28, 29, 30, 19, 31, 32, 33, 34, 35, 36, 37, 38, 39, 40, 41, 42, 43, 44, 45, 46, 47, 48, 49, 21, 50, 51, 52, 53, 54, 55, 56, 57, 58, 59, 60, 61, 62, 63, 116, 117, 118, 101, 102, 103, 104, 105, 106, 107, 108, 109, 110, 111, 112, 113, 114, 115] (by decide +kernel) (by decide +kernel)
set_option maxRecDepth 20000 in
theorem gX5_all_X0_remember : GoodIn wsX5_all (wsV RX5 119 RX0 yX0_remember wsX0_remember) := goodIn_app (goodIn_of _ (by decide +kernel)) ggX5_all_X0_remember
set_option maxRecDepth 20000 in
theorem ggX5_all_X3_writeInTurn : GoodIn wsX5_all wsX3_writeInTurn := goodIn_r _ [67, 59, 21, 68, 69, 70, 19, 71, 44, 72, 73, 74, 75, 76, 77, 78, 79, 54, 56, 42, 80, 81, 82, 83, 51, 52, 84, 85, 86, 87, 50, 88, 89, 90, 91, 45, 58, 41, 53, 57, 92, 93, 94, 95, 55, 101, 102, 103, 104, 105, 106, 107, 108, 109, 110, 111, 112, 113, 114, 115] (by decide +kernel) (by decide +kernel)
set_option maxRecDepth 20000 in
theorem gX5_all_X3_writeInTurn : GoodIn wsX5_all (wsV RX5 161 RX3 yX3_writeInTurn wsX3_writeInTurn) := goodIn_app (goodIn_of _ (by decide +kernel)) ggX5_all_X3_writeInTurn
theorem dX5_all_0 : decode cX5_all 0 = .ok (.iload_n 1, 1) := by decide +kernel
theorem dX5_all_1 : decode cX5_all 1 = .ok (.invokestatic 149, 3) := by decide +kernel
theorem dX5_all_4 : decode cX5_all 4 = .ok (.ifCond .ne 13, 3) := by decide +kernel
theorem dX5_all_7 : decode cX5_all 7 = .ok (.new 40, 3) := by decide +kernel
theorem dX5_all_10 : decode cX5_all 10 = .ok (.dup, 1) := by decide +kernel
theorem dX5_all_11 : decode cX5_all 11 = .ok (.ldc 152, 2) := by decide +kernel
theorem dX5_all_13 : decode cX5_all 13 = .ok (.invokespecial 44, 3) := by decide +kernel
theorem dX5_all_16 : decode cX5_all 16 = .ok (.athrow, 1) := by decide +kernel
theorem dX5_all_17 : decode cX5_all 17 = .ok (.aload_n 0, 1) := by decide +kernel
theorem dX5_all_18 : decode cX5_all 18 = .ok (.invokevirtual 154, 3) := by decide +kernel
theorem dX5_all_21 : decode cX5_all 21 = .ok (.aload_n 0, 1) := by decide +kernel
theorem dX5_all_22 : decode cX5_all 22 = .ok (.getfield 29, 3) := by decide +kernel
theorem dX5_all_25 : decode cX5_all 25 = .ok (.aload_n 0, 1) := by decide +kernel
theorem dX5_all_26 : decode cX5_all 26 = .ok (.getfield 19, 3) := by decide +kernel
theorem dX5_all_29 : decode cX5_all 29 = .ok (.invokevirtual 119, 3) := by decide +kernel
theorem dX5_all_32 : decode cX5_all 32 = .ok (.aload_n 0, 1) := by decide +kernel
theorem dX5_all_33 : decode cX5_all 33 = .ok (.getfield 19, 3) := by decide +kernel
theorem dX5_all_36 : decode cX5_all 36 = .ok (.iload_n 1, 1) := by decide +kernel
theorem dX5_all_37 : decode cX5_all 37 = .ok (.aload_n 0, 1) := by decide +kernel
theorem dX5_all_38 : decode cX5_all 38 = .ok (.getfield 19, 3) := by decide +kernel
theorem dX5_all_41 : decode cX5_all 41 = .ok (.getfield 157, 3) := by decide +kernel
theorem dX5_all_44 : decode cX5_all 44 = .ok (.imul, 1) := by decide +kernel
theorem dX5_all_45 : decode cX5_all 45 = .ok (.invokevirtual 161, 3) := by decide +kernel
theorem dX5_all_48 : decode cX5_all 48 = .ok (.ireturn, 1) := by decide +kernel
set_option maxRecDepth 20000 in
theorem ggX5_set_X5_isSettingValue : GoodIn wsX5_set wsX5_isSettingValue := goodIn_r _ [8] (by decide +kernel) (by decide +kernel)
set_option maxRecDepth 20000 in
theorem gX5_set_X5_isSettingValue : GoodIn wsX5_set (va_wsS RX5 164 yX5_isSettingValue wsX5_isSettingValue) := goodIn_app (goodIn_of _ (by decide +kernel)) ggX5_set_X5_isSettingValue
set_option maxRecDepth 20000 in
theorem ggX5_set_X0_remember : GoodIn wsX5_set wsX0_remember := goodIn_r _ [13, 14, 15, 16, 17, 18, 19, 20, 21, 22, 23, 24, 25, 26, 27, 28, 29, 30, 31, 32, 33, 34, 35, 36, 37, 38, 39, 40, 41, 42, 43, 44, 45, 46, 47, 48, 49, 50, 51, 52, 66, 67, 68, 69, 70, 71, 72, 73, 74, 75, 76, 77, 78, 79, 80, 81, 82, 83] (by decide +kernel) (by decide +kernel)
set_option maxRecDepth 20000 in
theorem gX5_set_X0_remember : GoodIn wsX5_set (wsV RX5 119 RX0 yX0_remember wsX0_remember) := goodIn_app (goodIn_of _ (by decide +kernel)) ggX5_set_X0_remember
set_option maxRecDepth 20000 in
theorem ggX5_set_X3_settingOf : GoodIn wsX5_set wsX3_settingOf := goodIn_r _ [56, 29, 30, 69, 70, 71, 72, 73, 74, 75, 76, 77, 78, 79, 80, 81, 82, 83] (by decide +kernel) (by decide +kernel)
set_option maxRecDepth 20000 in
theorem gX5_set_X3_settingOf : GoodIn wsX5_set (wsV RX5 108 RX3 yX3_settingOf wsX3_settingOf) := goodIn_app (goodIn_of _ (by decide +kernel)) ggX5_set_X3_settingOf
set_option maxRecDepth 20000 in
theorem ggX5_set_X3_changeSetting : GoodIn wsX5_set wsX3_changeSetting := goodIn_r _ [60, 29, 30, 69, 70, 71, 72, 73, 74, 75, 76, 77, 78, 79, 80, 81, 82, 83] (by decide +kernel) (by decide +kernel)
set_option maxRecDepth 20000 in
theorem gX5_set_X3_changeSetting : GoodIn wsX5_set (wsV RX5 169 RX3 yX3_changeSetting wsX3_changeSetting) := goodIn_app (goodIn_of _ (by decide +kernel)) ggX5_set_X3_changeSetting
theorem dX5_set_0 : decode cX5_set 0 = .ok (.iload_n 1, 1) := by decide +kernel
theorem dX5_set_1 : decode cX5_set 1 = .ok (.iload_n 2, 1) := by decide +kernel
theorem dX5_set_2 : decode cX5_set 2 = .ok (.invokestatic 164, 3) := by decide +kernel
theorem dX5_set_5 : decode cX5_set 5 = .ok (.ifCond .ne 13, 3) := by decide +kernel
theorem dX5_set_8 : decode cX5_set 8 = .ok (.new 40, 3) := by decide +kernel
theorem dX5_set_11 : decode cX5_set 11 = .ok (.dup, 1) := by decide +kernel
theorem dX5_set_12 : decode cX5_set 12 = .ok (.ldc 167, 2) := by decide +kernel
theorem dX5_set_14 : decode cX5_set 14 = .ok (.invokespecial 44, 3) := by decide +kernel
theorem dX5_set_17 : decode cX5_set 17 = .ok (.athrow, 1) := by decide +kernel
theorem dX5_set_18 : decode cX5_set 18 = .ok (.aload_n 0, 1) := by decide +kernel
theorem dX5_set_19 : decode cX5_set 19 = .ok (.getfield 29, 3) := by decide +kernel
theorem dX5_set_22 : decode cX5_set 22 = .ok (.aload_n 0, 1) := by decide +kernel
theorem dX5_set_23 : decode cX5_set 23 = .ok (.getfield 19, 3) := by decide +kernel
theorem dX5_set_26 : decode cX5_set 26 = .ok (.invokevirtual 119, 3) := by decide +kernel
theorem dX5_set_29 : decode cX5_set 29 = .ok (.aload_n 0, 1) := by decide +kernel
theorem dX5_set_30 : decode cX5_set 30 = .ok (.getfield 19, 3) := by decide +kernel
theorem dX5_set_33 : decode cX5_set 33 = .ok (.iload_n 1, 1) := by decide +kernel
theorem dX5_set_34 : decode cX5_set 34 = .ok (.invokevirtual 108, 3) := by decide +kernel
theorem dX5_set_37 : decode cX5_set 37 = .ok (.istore_n 3, 1) := by decide +kernel
theorem dX5_set_38 : decode cX5_set 38 = .ok (.aload_n 0, 1) := by decide +kernel
theorem dX5_set_39 : decode cX5_set 39 = .ok (.getfield 19, 3) := by decide +kernel
theorem dX5_set_42 : decode cX5_set 42 = .ok (.iload_n 1, 1) := by decide +kernel
theorem dX5_set_43 : decode cX5_set 43 = .ok (.iload_n 2, 1) := by decide +kernel
theorem dX5_set_44 : decode cX5_set 44 = .ok (.invokevirtual 169, 3) := by decide +kernel
theorem dX5_set_47 : decode cX5_set 47 = .ok (.iload_n 3, 1) := by decide +kernel
theorem dX5_set_48 : decode cX5_set 48 = .ok (.ireturn, 1) := by decide +kernel
set_option maxRecDepth 20000 in
theorem ggX5_undo_X0_takeBack : GoodIn wsX5_undo wsX0_takeBack := goodIn_r _ [9, 10, 11, 12, 13, 14, 15, 16, 17, 18, 19, 20, 21, 22, 23, 24, 25, 26, 27, 28, 29, 30, 31, 32, 33, 34, 35, 36, 46, 47, 48, 49, 50, 51, 52, 53, 54, 55, 56, 57, 58, 59, 60, 61, 62, 63] (by decide +kernel) (by decide +kernel)
set_option maxRecDepth 20000 in
theorem gX5_undo_X0_takeBack : GoodIn wsX5_undo (wsV RX5 173 RX0 yX0_takeBack wsX0_takeBack) := goodIn_app (goodIn_of _ (by decide +kernel)) ggX5_undo_X0_takeBack
set_option maxRecDepth 20000 in
theorem ggX5_undo_X0_size : GoodIn wsX5_undo wsX0_size := goodIn_r _ [40, 11, 46, 47, 48] (by decide +kernel) (by decide +kernel)
set_option maxRecDepth 20000 in
theorem gX5_undo_X0_size : GoodIn wsX5_undo (wsV RX5 179 RX0 yX0_size wsX0_size) := goodIn_app (goodIn_of _ (by decide +kernel)) ggX5_undo_X0_size
theorem dX5_undo_0 : decode cX5_undo 0 = .ok (.aload_n 0, 1) := by decide +kernel
theorem dX5_undo_1 : decode cX5_undo 1 = .ok (.getfield 29, 3) := by decide +kernel
theorem dX5_undo_4 : decode cX5_undo 4 = .ok (.aload_n 0, 1) := by decide +kernel
theorem dX5_undo_5 : decode cX5_undo 5 = .ok (.getfield 19, 3) := by decide +kernel
theorem dX5_undo_8 : decode cX5_undo 8 = .ok (.invokevirtual 173, 3) := by decide +kernel
theorem dX5_undo_11 : decode cX5_undo 11 = .ok (.ifCond .ne 13, 3) := by decide +kernel
theorem dX5_undo_14 : decode cX5_undo 14 = .ok (.new 51, 3) := by decide +kernel
theorem dX5_undo_17 : decode cX5_undo 17 = .ok (.dup, 1) := by decide +kernel
theorem dX5_undo_18 : decode cX5_undo 18 = .ok (.ldc 177, 2) := by decide +kernel
theorem dX5_undo_20 : decode cX5_undo 20 = .ok (.invokespecial 55, 3) := by decide +kernel
theorem dX5_undo_23 : decode cX5_undo 23 = .ok (.athrow, 1) := by decide +kernel
theorem dX5_undo_24 : decode cX5_undo 24 = .ok (.aload_n 0, 1) := by decide +kernel
theorem dX5_undo_25 : decode cX5_undo 25 = .ok (.getfield 29, 3) := by decide +kernel
theorem dX5_undo_28 : decode cX5_undo 28 = .ok (.invokevirtual 179, 3) := by decide +kernel
theorem dX5_undo_31 : decode cX5_undo 31 = .ok (.ireturn, 1) := by decide +kernel
set_option maxRecDepth 20000 in
theorem ggX5_life_X5_requireLine : GoodIn wsX5_life wsX5_requireLine := goodIn_ca (goodIn_r _ [7, 8, 9, 2, 10, 11, 12, 13, 14, 15, 67, 68, 69, 70, 71, 72, 73, 74, 75, 76, 77, 78, 79, 80, 81, 82, 83, 84, 85, 86] (by decide +kernel) (by decide +kernel)) (goodIn_sub (fun _ h => List.mem_cons_of_mem _ (List.mem_append_right _ h)) (by decide +kernel))
set_option maxRecDepth 20000 in
theorem gX5_life_X5_requireLine : GoodIn wsX5_life (wsV RX5 86 RX5 yX5_requireLine wsX5_requireLine) := goodIn_app (goodIn_of _ (by decide +kernel)) ggX5_life_X5_requireLine
set_option maxRecDepth 20000 in
theorem ggX5_life_X3_copyFrom : GoodIn wsX5_life wsX3_copyFrom := goodIn_r _ [19, 15, 20, 21, 22, 23, 24, 25, 26, 27, 28, 29, 30, 31, 32, 33, 34, 35, 36, 37, 72, 73, 74, 75, 76, 77, 78, 79, 80, 81, 82, 83, 84, 85, 86] (by decide +kernel) (by decide +kernel)
set_option maxRecDepth 20000 in
theorem gX5_life_X3_copyFrom : GoodIn wsX5_life (wsV RX5 182 RX3 yX3_copyFrom wsX3_copyFrom) := goodIn_app (goodIn_of _ (by decide +kernel)) ggX5_life_X3_copyFrom
set_option maxRecDepth 20000 in
theorem ggX5_life_X3_hammerLine : GoodIn wsX5_life wsX3_hammerLine := goodIn_r _ [41, 29, 42, 43, 44, 13, 45, 32, 46, 11, 12, 14, 15, 47, 48, 49, 50, 24, 26, 31, 51, 52, 53, 54, 21, 22, 55, 56, 57, 58, 20, 59, 60, 61, 62, 37, 28, 30, 23, 27, 63, 64, 65, 66, 25, 72, 73, 74, 75, 76, 77, 78, 79, 80, 81, 82, 83, 84, 85, 86] (by decide +kernel) (by decide +kernel)
set_option maxRecDepth 20000 in
theorem gX5_life_X3_hammerLine : GoodIn wsX5_life (wsV RX5 146 RX3 yX3_hammerLine wsX3_hammerLine) := goodIn_app (goodIn_of _ (by decide +kernel)) ggX5_life_X3_hammerLine
theorem dX5_life_0 : decode cX5_life 0 = .ok (.aload_n 0, 1) := by decide +kernel
theorem dX5_life_1 : decode cX5_life 1 = .ok (.iload_n 1, 1) := by decide +kernel
theorem dX5_life_2 : decode cX5_life 2 = .ok (.invokevirtual 86, 3) := by decide +kernel
theorem dX5_life_5 : decode cX5_life 5 = .ok (.aload_n 0, 1) := by decide +kernel
theorem dX5_life_6 : decode cX5_life 6 = .ok (.getfield 23, 3) := by decide +kernel
theorem dX5_life_9 : decode cX5_life 9 = .ok (.aload_n 0, 1) := by decide +kernel
theorem dX5_life_10 : decode cX5_life 10 = .ok (.getfield 19, 3) := by decide +kernel
theorem dX5_life_13 : decode cX5_life 13 = .ok (.invokevirtual 182, 3) := by decide +kernel
theorem dX5_life_16 : decode cX5_life 16 = .ok (.aload_n 0, 1) := by decide +kernel
theorem dX5_life_17 : decode cX5_life 17 = .ok (.getfield 23, 3) := by decide +kernel
theorem dX5_life_20 : decode cX5_life 20 = .ok (.iload_n 1, 1) := by decide +kernel
theorem dX5_life_21 : decode cX5_life 21 = .ok (.sipush 2000, 3) := by decide +kernel
theorem dX5_life_24 : decode cX5_life 24 = .ok (.invokevirtual 146, 3) := by decide +kernel
theorem dX5_life_27 : decode cX5_life 27 = .ok (.ireturn, 1) := by decide +kernel
set_option maxRecDepth 20000 in
theorem ggX5_lifeOfAll_X5_requireStore : GoodIn wsX5_lifeOfAll wsX5_requireStore := goodIn_ca (goodIn_r _ [7, 8, 9, 2, 10, 11, 12, 13, 14, 15, 70, 71, 72, 73, 74, 75, 76, 77, 78, 79, 80, 81, 82, 83, 84, 85, 86, 87, 88, 89] (by decide +kernel) (by decide +kernel)) (goodIn_sub (fun _ h => List.mem_cons_of_mem _ (List.mem_append_right _ h)) (by decide +kernel))
set_option maxRecDepth 20000 in
theorem gX5_lifeOfAll_X5_requireStore : GoodIn wsX5_lifeOfAll (wsV RX5 154 RX5 yX5_requireStore wsX5_requireStore) := goodIn_app (goodIn_of _ (by decide +kernel)) ggX5_lifeOfAll_X5_requireStore
set_option maxRecDepth 20000 in
theorem ggX5_lifeOfAll_X3_copyFrom : GoodIn wsX5_lifeOfAll wsX3_copyFrom := goodIn_r _ [19, 15, 20, 21, 22, 23, 24, 25, 26, 27, 28, 29, 30, 31, 32, 33, 34, 35, 36, 37, 75, 76, 77, 78, 79, 80, 81, 82, 83, 84, 85, 86, 87, 88, 89] (by decide +kernel) (by decide +kernel)
set_option maxRecDepth 20000 in
theorem gX5_lifeOfAll_X3_copyFrom : GoodIn wsX5_lifeOfAll (wsV RX5 182 RX3 yX3_copyFrom wsX3_copyFrom) := goodIn_app (goodIn_of _ (by decide +kernel)) ggX5_lifeOfAll_X3_copyFrom
set_option maxRecDepth 20000 in
theorem ggX5_lifeOfAll_X3_writeInTurn : GoodIn wsX5_lifeOfAll wsX3_writeInTurn := goodIn_r _ [41, 29, 15, 42, 43, 44, 13, 45, 32, 46, 47, 48, 49, 50, 51, 52, 53, 24, 26, 31, 54, 55, 56, 57, 21, 22, 58, 59, 60, 61, 20, 62, 63, 64, 65, 37, 28, 30, 23, 27, 66, 67, 68, 69, 25, 75, 76, 77, 78, 79, 80, 81, 82, 83, 84, 85, 86, 87, 88, 89] (by decide +kernel) (by decide +kernel)
set_option maxRecDepth 20000 in
theorem gX5_lifeOfAll_X3_writeInTurn : GoodIn wsX5_lifeOfAll (wsV RX5 161 RX3 yX3_writeInTurn wsX3_writeInTurn) := goodIn_app (goodIn_of _ (by decide +kernel)) ggX5_lifeOfAll_X3_writeInTurn
theorem dX5_lifeOfAll_0 : decode cX5_lifeOfAll 0 = .ok (.aload_n 0, 1) := by decide +kernel
theorem dX5_lifeOfAll_1 : decode cX5_lifeOfAll 1 = .ok (.invokevirtual 154, 3) := by decide +kernel
theorem dX5_lifeOfAll_4 : decode cX5_lifeOfAll 4 = .ok (.aload_n 0, 1) := by decide +kernel
theorem dX5_lifeOfAll_5 : decode cX5_lifeOfAll 5 = .ok (.getfield 23, 3) := by decide +kernel
theorem dX5_lifeOfAll_8 : decode cX5_lifeOfAll 8 = .ok (.aload_n 0, 1) := by decide +kernel
theorem dX5_lifeOfAll_9 : decode cX5_lifeOfAll 9 = .ok (.getfield 19, 3) := by decide +kernel
theorem dX5_lifeOfAll_12 : decode cX5_lifeOfAll 12 = .ok (.invokevirtual 182, 3) := by decide +kernel
theorem dX5_lifeOfAll_15 : decode cX5_lifeOfAll 15 = .ok (.aload_n 0, 1) := by decide +kernel
theorem dX5_lifeOfAll_16 : decode cX5_lifeOfAll 16 = .ok (.getfield 23, 3) := by decide +kernel
theorem dX5_lifeOfAll_19 : decode cX5_lifeOfAll 19 = .ok (.sipush 4000, 3) := by decide +kernel
theorem dX5_lifeOfAll_22 : decode cX5_lifeOfAll 22 = .ok (.invokevirtual 161, 3) := by decide +kernel
theorem dX5_lifeOfAll_25 : decode cX5_lifeOfAll 25 = .ok (.ireturn, 1) := by decide +kernel
set_option maxRecDepth 20000 in
theorem ggX5_ifEvery_X5_requireLine : GoodIn wsX5_ifEvery wsX5_requireLine := goodIn_ca (goodIn_r _ [7, 8, 9, 10, 11, 12, 13, 14, 15, 16, 88, 89, 90, 91, 92, 93, 94, 95, 96, 97, 98, 99, 100, 101, 102, 103, 104, 105, 106, 107] (by decide +kernel) (by decide +kernel)) (goodIn_sub (fun _ h => List.mem_cons_of_mem _ (List.mem_append_right _ h)) (by decide +kernel))
set_option maxRecDepth 20000 in
theorem gX5_ifEvery_X5_requireLine : GoodIn wsX5_ifEvery (wsV RX5 86 RX5 yX5_requireLine wsX5_requireLine) := goodIn_app (goodIn_of _ (by decide +kernel)) ggX5_ifEvery_X5_requireLine
set_option maxRecDepth 20000 in
theorem ggX5_ifEvery_X5_requireHammered : GoodIn wsX5_ifEvery wsX5_requireHammered := goodIn_ca (goodIn_r _ [19, 1, 2, 20, 21, 6, 22] (by decide +kernel) (by decide +kernel)) (goodIn_sub (fun _ h => List.mem_cons_of_mem _ (List.mem_append_left _ (List.mem_append_right _ h))) (by decide +kernel))
set_option maxRecDepth 20000 in
theorem gX5_ifEvery_X5_requireHammered : GoodIn wsX5_ifEvery (va_wsS RX5 143 yX5_requireHammered wsX5_requireHammered) := goodIn_app (goodIn_of _ (by decide +kernel)) ggX5_ifEvery_X5_requireHammered
set_option maxRecDepth 20000 in
theorem ggX5_ifEvery_X5_wearIfEvery : GoodIn wsX5_ifEvery wsX5_wearIfEvery := goodIn_r _ [26, 27, 10, 28, 29, 30, 31, 14, 32, 16, 33, 34, 35, 36, 37, 38, 39, 40, 41, 42, 43, 44, 45, 46, 47, 48, 49, 50, 51, 52, 53, 54, 55, 56, 57, 58, 59, 12, 13, 15, 60, 61, 62, 63, 64, 65, 66, 67, 68, 69, 70, 71, 72, 73, 74, 75, 76, 77, 78, 79, 80, 81, 82, 83, 84, 85, 86, 87, 88, 89, 90, 91, 92, 93, 94, 95, 96, 97, 98, 99, 100, 101, 102, 103, 104, 105, 106, 107] (by decide +kernel) (by decide +kernel)
set_option maxRecDepth 20000 in
theorem gX5_ifEvery_X5_wearIfEvery : GoodIn wsX5_ifEvery (wsV RX5 187 RX5 yX5_wearIfEvery wsX5_wearIfEvery) := goodIn_app (goodIn_of _ (by decide +kernel)) ggX5_ifEvery_X5_wearIfEvery
theorem dX5_ifEvery_0 : decode cX5_ifEvery 0 = .ok (.aload_n 0, 1) := by decide +kernel
theorem dX5_ifEvery_1 : decode cX5_ifEvery 1 = .ok (.iload_n 1, 1) := by decide +kernel
theorem dX5_ifEvery_2 : decode cX5_ifEvery 2 = .ok (.invokevirtual 86, 3) := by decide +kernel
theorem dX5_ifEvery_5 : decode cX5_ifEvery 5 = .ok (.iload_n 2, 1) := by decide +kernel
theorem dX5_ifEvery_6 : decode cX5_ifEvery 6 = .ok (.iconst 1, 1) := by decide +kernel
theorem dX5_ifEvery_7 : decode cX5_ifEvery 7 = .ok (.if_icmp .lt 9, 3) := by decide +kernel
theorem dX5_ifEvery_10 : decode cX5_ifEvery 10 = .ok (.iload_n 2, 1) := by decide +kernel
theorem dX5_ifEvery_11 : decode cX5_ifEvery 11 = .ok (.bipush 50, 2) := by decide +kernel
theorem dX5_ifEvery_13 : decode cX5_ifEvery 13 = .ok (.if_icmp .le 13, 3) := by decide +kernel
theorem dX5_ifEvery_16 : decode cX5_ifEvery 16 = .ok (.new 40, 3) := by decide +kernel
theorem dX5_ifEvery_19 : decode cX5_ifEvery 19 = .ok (.dup, 1) := by decide +kernel
theorem dX5_ifEvery_20 : decode cX5_ifEvery 20 = .ok (.ldc 185, 2) := by decide +kernel
theorem dX5_ifEvery_22 : decode cX5_ifEvery 22 = .ok (.invokespecial 44, 3) := by decide +kernel
theorem dX5_ifEvery_25 : decode cX5_ifEvery 25 = .ok (.athrow, 1) := by decide +kernel
theorem dX5_ifEvery_26 : decode cX5_ifEvery 26 = .ok (.iload_n 3, 1) := by decide +kernel
theorem dX5_ifEvery_27 : decode cX5_ifEvery 27 = .ok (.invokestatic 143, 3) := by decide +kernel
theorem dX5_ifEvery_30 : decode cX5_ifEvery 30 = .ok (.aload_n 0, 1) := by decide +kernel
theorem dX5_ifEvery_31 : decode cX5_ifEvery 31 = .ok (.iload_n 1, 1) := by decide +kernel
theorem dX5_ifEvery_32 : decode cX5_ifEvery 32 = .ok (.iload_n 2, 1) := by decide +kernel
theorem dX5_ifEvery_33 : decode cX5_ifEvery 33 = .ok (.iload_n 3, 1) := by decide +kernel
theorem dX5_ifEvery_34 : decode cX5_ifEvery 34 = .ok (.invokevirtual 187, 3) := by decide +kernel
theorem dX5_ifEvery_37 : decode cX5_ifEvery 37 = .ok (.ireturn, 1) := by decide +kernel
set_option maxRecDepth 20000 in
theorem ggX5_bestEvery_X5_requireLine : GoodIn wsX5_bestEvery wsX5_requireLine := goodIn_ca (goodIn_r _ [5, 6, 7, 8, 9, 10, 11, 12, 13, 14, 88, 89, 90, 91, 92, 93, 94, 95, 96, 97, 98, 99, 100, 101, 102, 103, 104, 105, 106, 107] (by decide +kernel) (by decide +kernel)) (goodIn_sub (fun _ h => List.mem_cons_of_mem _ (List.mem_append_left _ (List.mem_append_right _ h))) (by decide +kernel))
set_option maxRecDepth 20000 in
theorem gX5_bestEvery_X5_requireLine : GoodIn wsX5_bestEvery (wsV RX5 86 RX5 yX5_requireLine wsX5_requireLine) := goodIn_app (goodIn_of _ (by decide +kernel)) ggX5_bestEvery_X5_requireLine
set_option maxRecDepth 20000 in
theorem ggX5_bestEvery_X5_requireHammered : GoodIn wsX5_bestEvery wsX5_requireHammered := goodIn_ca (goodIn_r _ [17, 18, 19, 20, 21, 4, 22] (by decide +kernel) (by decide +kernel)) (goodIn_sub (fun _ h => List.mem_cons_of_mem _ (List.mem_append_right _ h)) (by decide +kernel))
set_option maxRecDepth 20000 in
theorem gX5_bestEvery_X5_requireHammered : GoodIn wsX5_bestEvery (va_wsS RX5 143 yX5_requireHammered wsX5_requireHammered) := goodIn_app (goodIn_of _ (by decide +kernel)) ggX5_bestEvery_X5_requireHammered
set_option maxRecDepth 20000 in
theorem ggX5_bestEvery_X5_wearIfEvery : GoodIn wsX5_bestEvery wsX5_wearIfEvery := goodIn_r _ [26, 27, 8, 28, 29, 30, 31, 12, 32, 14, 33, 34, 35, 36, 37, 38, 39, 40, 41, 42, 43, 44, 45, 46, 47, 48, 49, 50, 51, 52, 53, 54, 55, 56, 57, 58, 59, 10, 11, 13, 60, 61, 62, 63, 64, 65, 66, 67, 68, 69, 70, 71, 72, 73, 74, 75, 76, 77, 78, 79, 80, 81, 82, 83, 84, 85, 86, 87, 88, 89, 90, 91, 92, 93, 94, 95, 96, 97, 98, 99, 100, 101, 102, 103, 104, 105, 106, 107] (by decide +kernel) (by decide +kernel)
set_option maxRecDepth 20000 in
theorem gX5_bestEvery_X5_wearIfEvery : GoodIn wsX5_bestEvery (wsV RX5 187 RX5 yX5_wearIfEvery wsX5_wearIfEvery) := goodIn_app (goodIn_of _ (by decide +kernel)) ggX5_bestEvery_X5_wearIfEvery
theorem dX5_bestEvery_0 : decode cX5_bestEvery 0 = .ok (.aload_n 0, 1) := by decide +kernel
theorem dX5_bestEvery_1 : decode cX5_bestEvery 1 = .ok (.iload_n 1, 1) := by decide +kernel
theorem dX5_bestEvery_2 : decode cX5_bestEvery 2 = .ok (.invokevirtual 86, 3) := by decide +kernel
theorem dX5_bestEvery_5 : decode cX5_bestEvery 5 = .ok (.iload_n 2, 1) := by decide +kernel
theorem dX5_bestEvery_6 : decode cX5_bestEvery 6 = .ok (.invokestatic 143, 3) := by decide +kernel
theorem dX5_bestEvery_9 : decode cX5_bestEvery 9 = .ok (.bipush 50, 2) := by decide +kernel
theorem dX5_bestEvery_11 : decode cX5_bestEvery 11 = .ok (.istore_n 3, 1) := by decide +kernel
theorem dX5_bestEvery_12 : decode cX5_bestEvery 12 = .ok (.aload_n 0, 1) := by decide +kernel
theorem dX5_bestEvery_13 : decode cX5_bestEvery 13 = .ok (.iload_n 1, 1) := by decide +kernel
theorem dX5_bestEvery_14 : decode cX5_bestEvery 14 = .ok (.iload_n 3, 1) := by decide +kernel
theorem dX5_bestEvery_15 : decode cX5_bestEvery 15 = .ok (.iload_n 2, 1) := by decide +kernel
theorem dX5_bestEvery_16 : decode cX5_bestEvery 16 = .ok (.invokevirtual 187, 3) := by decide +kernel
theorem dX5_bestEvery_19 : decode cX5_bestEvery 19 = .ok (.istore 4, 2) := by decide +kernel
theorem dX5_bestEvery_21 : decode cX5_bestEvery 21 = .ok (.bipush 49, 2) := by decide +kernel
theorem dX5_bestEvery_23 : decode cX5_bestEvery 23 = .ok (.istore 5, 2) := by decide +kernel
theorem dX5_bestEvery_25 : decode cX5_bestEvery 25 = .ok (.iload 5, 2) := by decide +kernel
theorem dX5_bestEvery_27 : decode cX5_bestEvery 27 = .ok (.iconst 1, 1) := by decide +kernel
theorem dX5_bestEvery_28 : decode cX5_bestEvery 28 = .ok (.if_icmp .lt 33, 3) := by decide +kernel
theorem dX5_bestEvery_31 : decode cX5_bestEvery 31 = .ok (.aload_n 0, 1) := by decide +kernel
theorem dX5_bestEvery_32 : decode cX5_bestEvery 32 = .ok (.iload_n 1, 1) := by decide +kernel
theorem dX5_bestEvery_33 : decode cX5_bestEvery 33 = .ok (.iload 5, 2) := by decide +kernel
theorem dX5_bestEvery_35 : decode cX5_bestEvery 35 = .ok (.iload_n 2, 1) := by decide +kernel
theorem dX5_bestEvery_36 : decode cX5_bestEvery 36 = .ok (.invokevirtual 187, 3) := by decide +kernel
theorem dX5_bestEvery_39 : decode cX5_bestEvery 39 = .ok (.istore 6, 2) := by decide +kernel
theorem dX5_bestEvery_41 : decode cX5_bestEvery 41 = .ok (.iload 6, 2) := by decide +kernel
theorem dX5_bestEvery_43 : decode cX5_bestEvery 43 = .ok (.iload 4, 2) := by decide +kernel
theorem dX5_bestEvery_45 : decode cX5_bestEvery 45 = .ok (.if_icmp .ge 10, 3) := by decide +kernel
theorem dX5_bestEvery_48 : decode cX5_bestEvery 48 = .ok (.iload 6, 2) := by decide +kernel
theorem dX5_bestEvery_50 : decode cX5_bestEvery 50 = .ok (.istore 4, 2) := by decide +kernel
theorem dX5_bestEvery_52 : decode cX5_bestEvery 52 = .ok (.iload 5, 2) := by decide +kernel
theorem dX5_bestEvery_54 : decode cX5_bestEvery 54 = .ok (.istore_n 3, 1) := by decide +kernel
theorem dX5_bestEvery_55 : decode cX5_bestEvery 55 = .ok (.iinc 5 (-1), 3) := by decide +kernel
theorem dX5_bestEvery_58 : decode cX5_bestEvery 58 = .ok (.goto (-33), 3) := by decide +kernel
theorem dX5_bestEvery_61 : decode cX5_bestEvery 61 = .ok (.iload_n 3, 1) := by decide +kernel
theorem dX5_bestEvery_62 : decode cX5_bestEvery 62 = .ok (.ireturn, 1) := by decide +kernel
set_option maxRecDepth 20000 in
theorem ggX5_movesTo_X5_requireLine : GoodIn wsX5_movesTo wsX5_requireLine := goodIn_ca (goodIn_r _ [6, 7, 8, 1, 9, 10, 11, 12, 13, 14, 26, 27, 28, 29, 30, 31, 32, 33, 34, 35, 36, 37, 38, 39, 40, 41, 42, 43, 44, 45] (by decide +kernel) (by decide +kernel)) (goodIn_sub (fun _ h => List.mem_cons_of_mem _ (List.mem_append_right _ h)) (by decide +kernel))
set_option maxRecDepth 20000 in
theorem gX5_movesTo_X5_requireLine : GoodIn wsX5_movesTo (wsV RX5 86 RX5 yX5_requireLine wsX5_requireLine) := goodIn_app (goodIn_of _ (by decide +kernel)) ggX5_movesTo_X5_requireLine
set_option maxRecDepth 20000 in
theorem ggX5_movesTo_X3_movesUntilMoved : GoodIn wsX5_movesTo wsX3_movesUntilMoved := goodIn_r _ [18, 19, 20, 14, 21, 22, 23, 12, 24, 25, 31, 32, 33, 34, 35, 36, 37, 38, 39, 40, 41, 42, 43, 44, 45] (by decide +kernel) (by decide +kernel)
set_option maxRecDepth 20000 in
theorem gX5_movesTo_X3_movesUntilMoved : GoodIn wsX5_movesTo (wsV RX5 191 RX3 yX3_movesUntilMoved wsX3_movesUntilMoved) := goodIn_app (goodIn_of _ (by decide +kernel)) ggX5_movesTo_X3_movesUntilMoved
theorem dX5_movesTo_0 : decode cX5_movesTo 0 = .ok (.aload_n 0, 1) := by decide +kernel
theorem dX5_movesTo_1 : decode cX5_movesTo 1 = .ok (.iload_n 1, 1) := by decide +kernel
theorem dX5_movesTo_2 : decode cX5_movesTo 2 = .ok (.invokevirtual 86, 3) := by decide +kernel
theorem dX5_movesTo_5 : decode cX5_movesTo 5 = .ok (.aload_n 0, 1) := by decide +kernel
theorem dX5_movesTo_6 : decode cX5_movesTo 6 = .ok (.getfield 19, 3) := by decide +kernel
theorem dX5_movesTo_9 : decode cX5_movesTo 9 = .ok (.iload_n 1, 1) := by decide +kernel
theorem dX5_movesTo_10 : decode cX5_movesTo 10 = .ok (.invokevirtual 191, 3) := by decide +kernel
theorem dX5_movesTo_13 : decode cX5_movesTo 13 = .ok (.ireturn, 1) := by decide +kernel
set_option maxRecDepth 20000 in
theorem ggX5_placeBehind_X5_requireLine : GoodIn wsX5_placeBehind wsX5_requireLine := goodIn_ca (goodIn_r _ [8, 9, 10, 3, 11, 12, 13, 14, 15, 16, 29, 30, 31, 32, 33, 34, 35, 36, 37, 38, 39, 40, 41, 42, 43, 44, 45, 46, 47, 48] (by decide +kernel) (by decide +kernel)) (goodIn_sub (fun _ h => List.mem_cons_of_mem _ (List.mem_append_right _ h)) (by decide +kernel))
set_option maxRecDepth 20000 in
theorem gX5_placeBehind_X5_requireLine : GoodIn wsX5_placeBehind (wsV RX5 86 RX5 yX5_requireLine wsX5_requireLine) := goodIn_app (goodIn_of _ (by decide +kernel)) ggX5_placeBehind_X5_requireLine
set_option maxRecDepth 20000 in
theorem ggX5_placeBehind_X3_placeAfterMoves : GoodIn wsX5_placeBehind wsX3_placeAfterMoves := goodIn_r _ [20, 16, 21, 22, 23, 12, 13, 14, 15, 24, 25, 26, 27, 28, 34, 35, 36, 37, 38, 39, 40, 41, 42, 43, 44, 45, 46, 47, 48] (by decide +kernel) (by decide +kernel)
set_option maxRecDepth 20000 in
theorem gX5_placeBehind_X3_placeAfterMoves : GoodIn wsX5_placeBehind (wsV RX5 196 RX3 yX3_placeAfterMoves wsX3_placeAfterMoves) := goodIn_app (goodIn_of _ (by decide +kernel)) ggX5_placeBehind_X3_placeAfterMoves
theorem dX5_placeBehind_0 : decode cX5_placeBehind 0 = .ok (.aload_n 0, 1) := by decide +kernel
theorem dX5_placeBehind_1 : decode cX5_placeBehind 1 = .ok (.iload_n 1, 1) := by decide +kernel
theorem dX5_placeBehind_2 : decode cX5_placeBehind 2 = .ok (.invokevirtual 86, 3) := by decide +kernel
theorem dX5_placeBehind_5 : decode cX5_placeBehind 5 = .ok (.iload_n 2, 1) := by decide +kernel
theorem dX5_placeBehind_6 : decode cX5_placeBehind 6 = .ok (.ifCond .lt 10, 3) := by decide +kernel
theorem dX5_placeBehind_9 : decode cX5_placeBehind 9 = .ok (.iload_n 2, 1) := by decide +kernel
theorem dX5_placeBehind_10 : decode cX5_placeBehind 10 = .ok (.sipush 9999, 3) := by decide +kernel
theorem dX5_placeBehind_13 : decode cX5_placeBehind 13 = .ok (.if_icmp .le 13, 3) := by decide +kernel
theorem dX5_placeBehind_16 : decode cX5_placeBehind 16 = .ok (.new 40, 3) := by decide +kernel
theorem dX5_placeBehind_19 : decode cX5_placeBehind 19 = .ok (.dup, 1) := by decide +kernel
theorem dX5_placeBehind_20 : decode cX5_placeBehind 20 = .ok (.ldc 194, 2) := by decide +kernel
theorem dX5_placeBehind_22 : decode cX5_placeBehind 22 = .ok (.invokespecial 44, 3) := by decide +kernel
theorem dX5_placeBehind_25 : decode cX5_placeBehind 25 = .ok (.athrow, 1) := by decide +kernel
theorem dX5_placeBehind_26 : decode cX5_placeBehind 26 = .ok (.aload_n 0, 1) := by decide +kernel
theorem dX5_placeBehind_27 : decode cX5_placeBehind 27 = .ok (.getfield 19, 3) := by decide +kernel
theorem dX5_placeBehind_30 : decode cX5_placeBehind 30 = .ok (.iload_n 1, 1) := by decide +kernel
theorem dX5_placeBehind_31 : decode cX5_placeBehind 31 = .ok (.iload_n 2, 1) := by decide +kernel
theorem dX5_placeBehind_32 : decode cX5_placeBehind 32 = .ok (.invokevirtual 196, 3) := by decide +kernel
theorem dX5_placeBehind_35 : decode cX5_placeBehind 35 = .ok (.ireturn, 1) := by decide +kernel
set_option maxRecDepth 20000 in
theorem ggX5_runScript_X5_withoutLastCommands : GoodIn wsX5_runScript wsX5_withoutLastCommands := goodIn_r _ [9, 5] (by decide +kernel) (by decide +kernel)
set_option maxRecDepth 20000 in
theorem gX5_runScript_X5_withoutLastCommands : GoodIn wsX5_runScript (va_wsS RX5 201 yX5_withoutLastCommands wsX5_withoutLastCommands) := goodIn_app (goodIn_of _ (by decide +kernel)) ggX5_runScript_X5_withoutLastCommands
set_option maxRecDepth 20000 in
theorem ggX5_runScript_X3_copyFrom : GoodIn wsX5_runScript wsX3_copyFrom := goodIn_r _ [14, 15, 16, 17, 18, 19, 20, 21, 22, 23, 24, 25, 26, 27, 28, 29, 30, 31, 32, 33, 127, 128, 129, 130, 131, 132, 133, 134, 135, 136, 137, 138, 139, 140, 141] (by decide +kernel) (by decide +kernel)
set_option maxRecDepth 20000 in
theorem gX5_runScript_X3_copyFrom : GoodIn wsX5_runScript (wsV RX5 182 RX3 yX3_copyFrom wsX3_copyFrom) := goodIn_app (goodIn_of _ (by decide +kernel)) ggX5_runScript_X3_copyFrom
set_option maxRecDepth 20000 in
theorem ggX5_runScript_X1_succeeds : GoodIn wsX5_runScript wsX1_succeeds := goodIn_r _ [37, 38, 39, 40, 41, 42, 43, 13, 44, 25, 45, 46, 47, 48, 15, 49, 8, 50, 51, 52, 53, 54, 28, 20, 22, 27, 55, 56, 57, 58, 17, 18, 59, 60, 61, 62, 16, 63, 64, 65, 66, 33, 24, 26, 19, 23, 67, 68, 69, 70, 21, 71, 72, 73, 74, 75, 76, 77, 78, 79, 80, 81, 82, 83, 84, 85, 86, 87, 88, 89, 90, 91, 92, 93, 94, 95, 96, 97, 98, 99, 100, 101, 102, 103, 104, 105, 106, 107, 108, 109, 110, 111, 112, 113, 114, 115, 116, 117, 118, 119, 120, 121, 127, 128, 129, 130, 131, 132, 133, 134, 135, 136, 137, 138, 139, 140, 141] (by decide +kernel) (by decide +kernel)
set_option maxRecDepth 20000 in
theorem gX5_runScript_X1_succeeds : GoodIn wsX5_runScript (va_wsS RX5 209 yX1_succeeds wsX1_succeeds) := goodIn_app (goodIn_of _ (by decide +kernel)) ggX5_runScript_X1_succeeds
theorem dX5_runScript_0 : decode cX5_runScript 0 = .ok (.iload_n 1, 1) := by decide +kernel
theorem dX5_runScript_1 : decode cX5_runScript 1 = .ok (.iconst 1, 1) := by decide +kernel
theorem dX5_runScript_2 : decode cX5_runScript 2 = .ok (.if_icmp .lt 8, 3) := by decide +kernel
theorem dX5_runScript_5 : decode cX5_runScript 5 = .ok (.iload_n 1, 1) := by decide +kernel
theorem dX5_runScript_6 : decode cX5_runScript 6 = .ok (.iconst 3, 1) := by decide +kernel
theorem dX5_runScript_7 : decode cX5_runScript 7 = .ok (.if_icmp .le 13, 3) := by decide +kernel
theorem dX5_runScript_10 : decode cX5_runScript 10 = .ok (.new 40, 3) := by decide +kernel
theorem dX5_runScript_13 : decode cX5_runScript 13 = .ok (.dup, 1) := by decide +kernel
theorem dX5_runScript_14 : decode cX5_runScript 14 = .ok (.ldc 199, 2) := by decide +kernel
theorem dX5_runScript_16 : decode cX5_runScript 16 = .ok (.invokespecial 44, 3) := by decide +kernel
theorem dX5_runScript_19 : decode cX5_runScript 19 = .ok (.athrow, 1) := by decide +kernel
theorem dX5_runScript_20 : decode cX5_runScript 20 = .ok (.lload_n 2, 1) := by decide +kernel
theorem dX5_runScript_21 : decode cX5_runScript 21 = .ok (.lconst 0, 1) := by decide +kernel
theorem dX5_runScript_22 : decode cX5_runScript 22 = .ok (.lcmp, 1) := by decide +kernel
theorem dX5_runScript_23 : decode cX5_runScript 23 = .ok (.ifCond .lt 13, 3) := by decide +kernel
theorem dX5_runScript_26 : decode cX5_runScript 26 = .ok (.lload_n 2, 1) := by decide +kernel
theorem dX5_runScript_27 : decode cX5_runScript 27 = .ok (.iload_n 1, 1) := by decide +kernel
theorem dX5_runScript_28 : decode cX5_runScript 28 = .ok (.invokestatic 201, 3) := by decide +kernel
theorem dX5_runScript_31 : decode cX5_runScript 31 = .ok (.lconst 0, 1) := by decide +kernel
theorem dX5_runScript_32 : decode cX5_runScript 32 = .ok (.lcmp, 1) := by decide +kernel
theorem dX5_runScript_33 : decode cX5_runScript 33 = .ok (.ifCond .eq 13, 3) := by decide +kernel
theorem dX5_runScript_36 : decode cX5_runScript 36 = .ok (.new 40, 3) := by decide +kernel
theorem dX5_runScript_39 : decode cX5_runScript 39 = .ok (.dup, 1) := by decide +kernel
theorem dX5_runScript_40 : decode cX5_runScript 40 = .ok (.ldc 205, 2) := by decide +kernel
theorem dX5_runScript_42 : decode cX5_runScript 42 = .ok (.invokespecial 44, 3) := by decide +kernel
theorem dX5_runScript_45 : decode cX5_runScript 45 = .ok (.athrow, 1) := by decide +kernel
theorem dX5_runScript_46 : decode cX5_runScript 46 = .ok (.aload_n 0, 1) := by decide +kernel
theorem dX5_runScript_47 : decode cX5_runScript 47 = .ok (.getfield 23, 3) := by decide +kernel
theorem dX5_runScript_50 : decode cX5_runScript 50 = .ok (.aload_n 0, 1) := by decide +kernel
theorem dX5_runScript_51 : decode cX5_runScript 51 = .ok (.getfield 19, 3) := by decide +kernel
theorem dX5_runScript_54 : decode cX5_runScript 54 = .ok (.invokevirtual 182, 3) := by decide +kernel
theorem dX5_runScript_57 : decode cX5_runScript 57 = .ok (.iconst 0, 1) := by decide +kernel
theorem dX5_runScript_58 : decode cX5_runScript 58 = .ok (.istore 4, 2) := by decide +kernel
theorem dX5_runScript_60 : decode cX5_runScript 60 = .ok (.iload 4, 2) := by decide +kernel
theorem dX5_runScript_62 : decode cX5_runScript 62 = .ok (.iload_n 1, 1) := by decide +kernel
theorem dX5_runScript_63 : decode cX5_runScript 63 = .ok (.if_icmp .ge 41, 3) := by decide +kernel
theorem dX5_runScript_66 : decode cX5_runScript 66 = .ok (.lload_n 2, 1) := by decide +kernel
theorem dX5_runScript_67 : decode cX5_runScript 67 = .ok (.iload_n 1, 1) := by decide +kernel
theorem dX5_runScript_68 : decode cX5_runScript 68 = .ok (.iconst 1, 1) := by decide +kernel
theorem dX5_runScript_69 : decode cX5_runScript 69 = .ok (.isub, 1) := by decide +kernel
theorem dX5_runScript_70 : decode cX5_runScript 70 = .ok (.iload 4, 2) := by decide +kernel
theorem dX5_runScript_72 : decode cX5_runScript 72 = .ok (.isub, 1) := by decide +kernel
theorem dX5_runScript_73 : decode cX5_runScript 73 = .ok (.invokestatic 201, 3) := by decide +kernel
theorem dX5_runScript_76 : decode cX5_runScript 76 = .ok (.ldc2_w 207, 3) := by decide +kernel
theorem dX5_runScript_79 : decode cX5_runScript 79 = .ok (.lrem, 1) := by decide +kernel
theorem dX5_runScript_80 : decode cX5_runScript 80 = .ok (.l2i, 1) := by decide +kernel
theorem dX5_runScript_81 : decode cX5_runScript 81 = .ok (.istore 5, 2) := by decide +kernel
theorem dX5_runScript_83 : decode cX5_runScript 83 = .ok (.aload_n 0, 1) := by decide +kernel
theorem dX5_runScript_84 : decode cX5_runScript 84 = .ok (.getfield 23, 3) := by decide +kernel
theorem dX5_runScript_87 : decode cX5_runScript 87 = .ok (.iload 5, 2) := by decide +kernel
theorem dX5_runScript_89 : decode cX5_runScript 89 = .ok (.invokestatic 209, 3) := by decide +kernel
theorem dX5_runScript_92 : decode cX5_runScript 92 = .ok (.ifCond .ne 6, 3) := by decide +kernel
theorem dX5_runScript_95 : decode cX5_runScript 95 = .ok (.iload 4, 2) := by decide +kernel
theorem dX5_runScript_97 : decode cX5_runScript 97 = .ok (.ireturn, 1) := by decide +kernel
theorem dX5_runScript_98 : decode cX5_runScript 98 = .ok (.iinc 4 1, 3) := by decide +kernel
theorem dX5_runScript_101 : decode cX5_runScript 101 = .ok (.goto (-41), 3) := by decide +kernel
theorem dX5_runScript_104 : decode cX5_runScript 104 = .ok (.iconst (-1), 1) := by decide +kernel
theorem dX5_runScript_105 : decode cX5_runScript 105 = .ok (.ireturn, 1) := by decide +kernel
set_option maxRecDepth 20000 in
theorem ggX5_simulate_X3_exists : GoodIn wsX5_simulate wsX3_exists := goodIn_r _ [10, 11, 78, 79, 80, 81, 82, 83, 84, 85, 86, 87, 88, 89, 90, 91, 92] (by decide +kernel) (by decide +kernel)
set_option maxRecDepth 20000 in
theorem gX5_simulate_X3_exists : GoodIn wsX5_simulate (wsV RX5 217 RX3 yX3_exists wsX3_exists) := goodIn_app (goodIn_of _ (by decide +kernel)) ggX5_simulate_X3_exists
set_option maxRecDepth 20000 in
theorem ggX5_simulate_X3_copyFrom : GoodIn wsX5_simulate wsX3_copyFrom := goodIn_r _ [15, 11, 16, 17, 18, 19, 20, 21, 22, 23, 24, 25, 26, 27, 28, 29, 30, 31, 32, 33, 78, 79, 80, 81, 82, 83, 84, 85, 86, 87, 88, 89, 90, 91, 92] (by decide +kernel) (by decide +kernel)
set_option maxRecDepth 20000 in
theorem gX5_simulate_X3_copyFrom : GoodIn wsX5_simulate (wsV RX5 182 RX3 yX3_copyFrom wsX3_copyFrom) := goodIn_app (goodIn_of _ (by decide +kernel)) ggX5_simulate_X3_copyFrom
set_option maxRecDepth 20000 in
theorem ggX5_simulate_X3_writeByChance : GoodIn wsX5_simulate wsX3_writeByChance := goodIn_r _ [37, 38, 39, 11, 25, 40, 7, 8, 9, 10, 41, 42, 43, 44, 28, 20, 22, 27, 45, 46, 47, 48, 49, 50, 51, 52, 17, 18, 53, 54, 55, 56, 16, 57, 58, 59, 60, 33, 24, 26, 19, 23, 61, 62, 63, 64, 21, 78, 79, 80, 81, 82, 83, 84, 85, 86, 87, 88, 89, 90, 91, 92] (by decide +kernel) (by decide +kernel)
set_option maxRecDepth 20000 in
theorem gX5_simulate_X3_writeByChance : GoodIn wsX5_simulate (wsV RX5 220 RX3 yX3_writeByChance wsX3_writeByChance) := goodIn_app (goodIn_of _ (by decide +kernel)) ggX5_simulate_X3_writeByChance
set_option maxRecDepth 20000 in
theorem ggX5_simulate_X3_greatestWear : GoodIn wsX5_simulate wsX3_greatestWear := goodIn_r _ [68, 33, 11, 69, 70, 71, 72, 78, 79, 80, 81, 82, 83, 84, 85, 86, 87, 88, 89, 90, 91, 92] (by decide +kernel) (by decide +kernel)
set_option maxRecDepth 20000 in
theorem gX5_simulate_X3_greatestWear : GoodIn wsX5_simulate (wsV RX5 227 RX3 yX3_greatestWear wsX3_greatestWear) := goodIn_app (goodIn_of _ (by decide +kernel)) ggX5_simulate_X3_greatestWear
theorem dX5_simulate_0 : decode cX5_simulate 0 = .ok (.iload_n 3, 1) := by decide +kernel
theorem dX5_simulate_1 : decode cX5_simulate 1 = .ok (.iconst 1, 1) := by decide +kernel
theorem dX5_simulate_2 : decode cX5_simulate 2 = .ok (.if_icmp .lt 10, 3) := by decide +kernel
theorem dX5_simulate_5 : decode cX5_simulate 5 = .ok (.iload_n 3, 1) := by decide +kernel
theorem dX5_simulate_6 : decode cX5_simulate 6 = .ok (.sipush 300, 3) := by decide +kernel
theorem dX5_simulate_9 : decode cX5_simulate 9 = .ok (.if_icmp .le 13, 3) := by decide +kernel
theorem dX5_simulate_12 : decode cX5_simulate 12 = .ok (.new 40, 3) := by decide +kernel
theorem dX5_simulate_15 : decode cX5_simulate 15 = .ok (.dup, 1) := by decide +kernel
theorem dX5_simulate_16 : decode cX5_simulate 16 = .ok (.ldc 215, 2) := by decide +kernel
theorem dX5_simulate_18 : decode cX5_simulate 18 = .ok (.invokespecial 44, 3) := by decide +kernel
theorem dX5_simulate_21 : decode cX5_simulate 21 = .ok (.athrow, 1) := by decide +kernel
theorem dX5_simulate_22 : decode cX5_simulate 22 = .ok (.aload_n 0, 1) := by decide +kernel
theorem dX5_simulate_23 : decode cX5_simulate 23 = .ok (.getfield 19, 3) := by decide +kernel
theorem dX5_simulate_26 : decode cX5_simulate 26 = .ok (.invokevirtual 217, 3) := by decide +kernel
theorem dX5_simulate_29 : decode cX5_simulate 29 = .ok (.ifCond .ne 5, 3) := by decide +kernel
theorem dX5_simulate_32 : decode cX5_simulate 32 = .ok (.iconst 0, 1) := by decide +kernel
theorem dX5_simulate_33 : decode cX5_simulate 33 = .ok (.ireturn, 1) := by decide +kernel
theorem dX5_simulate_34 : decode cX5_simulate 34 = .ok (.aload_n 0, 1) := by decide +kernel
theorem dX5_simulate_35 : decode cX5_simulate 35 = .ok (.getfield 23, 3) := by decide +kernel
theorem dX5_simulate_38 : decode cX5_simulate 38 = .ok (.aload_n 0, 1) := by decide +kernel
theorem dX5_simulate_39 : decode cX5_simulate 39 = .ok (.getfield 19, 3) := by decide +kernel
theorem dX5_simulate_42 : decode cX5_simulate 42 = .ok (.invokevirtual 182, 3) := by decide +kernel
theorem dX5_simulate_45 : decode cX5_simulate 45 = .ok (.aload_n 0, 1) := by decide +kernel
theorem dX5_simulate_46 : decode cX5_simulate 46 = .ok (.getfield 23, 3) := by decide +kernel
theorem dX5_simulate_49 : decode cX5_simulate 49 = .ok (.lload_n 1, 1) := by decide +kernel
theorem dX5_simulate_50 : decode cX5_simulate 50 = .ok (.iload_n 3, 1) := by decide +kernel
theorem dX5_simulate_51 : decode cX5_simulate 51 = .ok (.invokevirtual 220, 3) := by decide +kernel
theorem dX5_simulate_54 : decode cX5_simulate 54 = .ok (.sipush 1000, 3) := by decide +kernel
theorem dX5_simulate_57 : decode cX5_simulate 57 = .ok (.aload_n 0, 1) := by decide +kernel
theorem dX5_simulate_58 : decode cX5_simulate 58 = .ok (.getfield 23, 3) := by decide +kernel
theorem dX5_simulate_61 : decode cX5_simulate 61 = .ok (.getfield 224, 3) := by decide +kernel
theorem dX5_simulate_64 : decode cX5_simulate 64 = .ok (.aload_n 0, 1) := by decide +kernel
theorem dX5_simulate_65 : decode cX5_simulate 65 = .ok (.getfield 19, 3) := by decide +kernel
theorem dX5_simulate_68 : decode cX5_simulate 68 = .ok (.getfield 224, 3) := by decide +kernel
theorem dX5_simulate_71 : decode cX5_simulate 71 = .ok (.isub, 1) := by decide +kernel
theorem dX5_simulate_72 : decode cX5_simulate 72 = .ok (.imul, 1) := by decide +kernel
theorem dX5_simulate_73 : decode cX5_simulate 73 = .ok (.aload_n 0, 1) := by decide +kernel
theorem dX5_simulate_74 : decode cX5_simulate 74 = .ok (.getfield 23, 3) := by decide +kernel
theorem dX5_simulate_77 : decode cX5_simulate 77 = .ok (.invokevirtual 227, 3) := by decide +kernel
theorem dX5_simulate_80 : decode cX5_simulate 80 = .ok (.iadd, 1) := by decide +kernel
theorem dX5_simulate_81 : decode cX5_simulate 81 = .ok (.ireturn, 1) := by decide +kernel
set_option maxRecDepth 20000 in
theorem ggX5_save_X5_requireSlot : GoodIn wsX5_save wsX5_requireSlot := goodIn_ca (goodIn_r _ [7, 8, 9, 10, 11, 12, 13] (by decide +kernel) (by decide +kernel)) (goodIn_sub (fun _ h => List.mem_cons_of_mem _ (List.mem_append_right _ h)) (by decide +kernel))
set_option maxRecDepth 20000 in
theorem gX5_save_X5_requireSlot : GoodIn wsX5_save (va_wsS RX5 230 yX5_requireSlot wsX5_requireSlot) := goodIn_app (goodIn_of _ (by decide +kernel)) ggX5_save_X5_requireSlot
set_option maxRecDepth 20000 in
theorem ggX5_save_X2_keep : GoodIn wsX5_save wsX2_keep := goodIn_r _ [17, 18, 19, 20, 21, 22, 23, 11, 12, 13, 24, 25, 26, 27, 28, 29, 30, 31, 32, 33, 34, 35, 36, 37, 38, 39, 40, 41, 42, 43, 44, 45, 46, 47, 48, 49, 50, 51, 52, 73, 74, 58, 59, 60, 61, 62, 63, 64, 65, 66, 67, 68, 69, 70, 71, 72] (by decide +kernel) (by decide +kernel)
set_option maxRecDepth 20000 in
theorem gX5_save_X2_keep : GoodIn wsX5_save (wsV RX5 233 RX2 yX2_keep wsX2_keep) := goodIn_app (goodIn_of _ (by decide +kernel)) ggX5_save_X2_keep
theorem dX5_save_0 : decode cX5_save 0 = .ok (.iload_n 1, 1) := by decide +kernel
theorem dX5_save_1 : decode cX5_save 1 = .ok (.invokestatic 230, 3) := by decide +kernel
theorem dX5_save_4 : decode cX5_save 4 = .ok (.aload_n 0, 1) := by decide +kernel
theorem dX5_save_5 : decode cX5_save 5 = .ok (.getfield 36, 3) := by decide +kernel
theorem dX5_save_8 : decode cX5_save 8 = .ok (.iload_n 1, 1) := by decide +kernel
theorem dX5_save_9 : decode cX5_save 9 = .ok (.aload_n 0, 1) := by decide +kernel
theorem dX5_save_10 : decode cX5_save 10 = .ok (.getfield 19, 3) := by decide +kernel
theorem dX5_save_13 : decode cX5_save 13 = .ok (.invokevirtual 233, 3) := by decide +kernel
theorem dX5_save_16 : decode cX5_save 16 = .ok (.aload_n 0, 1) := by decide +kernel
theorem dX5_save_17 : decode cX5_save 17 = .ok (.getfield 19, 3) := by decide +kernel
theorem dX5_save_20 : decode cX5_save 20 = .ok (.getfield 237, 3) := by decide +kernel
theorem dX5_save_23 : decode cX5_save 23 = .ok (.ireturn, 1) := by decide +kernel
set_option maxRecDepth 20000 in
theorem ggX5_restore_X5_requireSlot : GoodIn wsX5_restore wsX5_requireSlot := goodIn_ca (goodIn_r _ [10, 11, 12, 13, 14, 15, 16] (by decide +kernel) (by decide +kernel)) (goodIn_sub (fun _ h => List.mem_cons_of_mem _ (List.mem_append_right _ h)) (by decide +kernel))
set_option maxRecDepth 20000 in
theorem gX5_restore_X5_requireSlot : GoodIn wsX5_restore (va_wsS RX5 230 yX5_requireSlot wsX5_requireSlot) := goodIn_app (goodIn_of _ (by decide +kernel)) ggX5_restore_X5_requireSlot
set_option maxRecDepth 20000 in
theorem ggX5_restore_X2_bringBack : GoodIn wsX5_restore wsX2_bringBack := goodIn_r _ [20, 21, 22, 23, 14, 15, 16, 24, 25, 26, 27, 28, 29, 30, 31, 32, 33, 34, 35, 36, 37, 38, 39, 40, 41, 42, 43, 44, 45, 46, 47, 74, 75, 59, 60, 61, 62, 63, 64, 65, 66, 67, 68, 69, 70, 71, 72, 73] (by decide +kernel) (by decide +kernel)
set_option maxRecDepth 20000 in
theorem gX5_restore_X2_bringBack : GoodIn wsX5_restore (wsV RX5 240 RX2 yX2_bringBack wsX2_bringBack) := goodIn_app (goodIn_of _ (by decide +kernel)) ggX5_restore_X2_bringBack
set_option maxRecDepth 20000 in
theorem ggX5_restore_X0_forgetAll : GoodIn wsX5_restore wsX0_forgetAll := goodIn_r _ [52, 53, 76, 77, 78] (by decide +kernel) (by decide +kernel)
set_option maxRecDepth 20000 in
theorem gX5_restore_X0_forgetAll : GoodIn wsX5_restore (wsV RX5 69 RX0 yX0_forgetAll wsX0_forgetAll) := goodIn_app (goodIn_of _ (by decide +kernel)) ggX5_restore_X0_forgetAll
theorem dX5_restore_0 : decode cX5_restore 0 = .ok (.iload_n 1, 1) := by decide +kernel
theorem dX5_restore_1 : decode cX5_restore 1 = .ok (.invokestatic 230, 3) := by decide +kernel
theorem dX5_restore_4 : decode cX5_restore 4 = .ok (.aload_n 0, 1) := by decide +kernel
theorem dX5_restore_5 : decode cX5_restore 5 = .ok (.getfield 36, 3) := by decide +kernel
theorem dX5_restore_8 : decode cX5_restore 8 = .ok (.iload_n 1, 1) := by decide +kernel
theorem dX5_restore_9 : decode cX5_restore 9 = .ok (.aload_n 0, 1) := by decide +kernel
theorem dX5_restore_10 : decode cX5_restore 10 = .ok (.getfield 19, 3) := by decide +kernel
theorem dX5_restore_13 : decode cX5_restore 13 = .ok (.invokevirtual 240, 3) := by decide +kernel
theorem dX5_restore_16 : decode cX5_restore 16 = .ok (.ifCond .ne 13, 3) := by decide +kernel
theorem dX5_restore_19 : decode cX5_restore 19 = .ok (.new 51, 3) := by decide +kernel
theorem dX5_restore_22 : decode cX5_restore 22 = .ok (.dup, 1) := by decide +kernel
theorem dX5_restore_23 : decode cX5_restore 23 = .ok (.ldc 244, 2) := by decide +kernel
theorem dX5_restore_25 : decode cX5_restore 25 = .ok (.invokespecial 55, 3) := by decide +kernel
theorem dX5_restore_28 : decode cX5_restore 28 = .ok (.athrow, 1) := by decide +kernel
theorem dX5_restore_29 : decode cX5_restore 29 = .ok (.aload_n 0, 1) := by decide +kernel
theorem dX5_restore_30 : decode cX5_restore 30 = .ok (.getfield 29, 3) := by decide +kernel
theorem dX5_restore_33 : decode cX5_restore 33 = .ok (.invokevirtual 69, 3) := by decide +kernel
theorem dX5_restore_36 : decode cX5_restore 36 = .ok (.aload_n 0, 1) := by decide +kernel
theorem dX5_restore_37 : decode cX5_restore 37 = .ok (.getfield 19, 3) := by decide +kernel
theorem dX5_restore_40 : decode cX5_restore 40 = .ok (.getfield 237, 3) := by decide +kernel
theorem dX5_restore_43 : decode cX5_restore 43 = .ok (.ireturn, 1) := by decide +kernel
set_option maxRecDepth 20000 in
theorem ggX5_requireLine_X3_hasLine : GoodIn wsX5_requireLine wsX3_hasLine := goodIn_r _ [8, 9, 15, 16, 17, 18, 19, 20, 21, 22, 23, 24, 25, 26, 27, 28, 29] (by decide +kernel) (by decide +kernel)
set_option maxRecDepth 20000 in
theorem gX5_requireLine_X3_hasLine : GoodIn wsX5_requireLine (wsV RX5 246 RX3 yX3_hasLine wsX3_hasLine) := goodIn_app (goodIn_of _ (by decide +kernel)) ggX5_requireLine_X3_hasLine
theorem dX5_requireLine_0 : decode cX5_requireLine 0 = .ok (.aload_n 0, 1) := by decide +kernel
theorem dX5_requireLine_1 : decode cX5_requireLine 1 = .ok (.getfield 19, 3) := by decide +kernel
theorem dX5_requireLine_4 : decode cX5_requireLine 4 = .ok (.iload_n 1, 1) := by decide +kernel
theorem dX5_requireLine_5 : decode cX5_requireLine 5 = .ok (.invokevirtual 246, 3) := by decide +kernel
theorem dX5_requireLine_8 : decode cX5_requireLine 8 = .ok (.ifCond .ne 13, 3) := by decide +kernel
theorem dX5_requireLine_11 : decode cX5_requireLine 11 = .ok (.new 249, 3) := by decide +kernel
theorem dX5_requireLine_14 : decode cX5_requireLine 14 = .ok (.dup, 1) := by decide +kernel
theorem dX5_requireLine_15 : decode cX5_requireLine 15 = .ok (.ldc 251, 2) := by decide +kernel
theorem dX5_requireLine_17 : decode cX5_requireLine 17 = .ok (.invokespecial 253, 3) := by decide +kernel
theorem dX5_requireLine_20 : decode cX5_requireLine 20 = .ok (.athrow, 1) := by decide +kernel
theorem dX5_requireLine_21 : decode cX5_requireLine 21 = .ok (.return_, 1) := by decide +kernel
set_option maxRecDepth 20000 in
theorem ggX5_requirePlace_X3_hasPlace : GoodIn wsX5_requirePlace wsX3_hasPlace := goodIn_r _ [8, 9, 15, 16, 17, 18, 19, 20, 21, 22, 23, 24, 25, 26, 27, 28, 29] (by decide +kernel) (by decide +kernel)
set_option maxRecDepth 20000 in
theorem gX5_requirePlace_X3_hasPlace : GoodIn wsX5_requirePlace (wsV RX5 254 RX3 yX3_hasPlace wsX3_hasPlace) := goodIn_app (goodIn_of _ (by decide +kernel)) ggX5_requirePlace_X3_hasPlace
theorem dX5_requirePlace_0 : decode cX5_requirePlace 0 = .ok (.aload_n 0, 1) := by decide +kernel
theorem dX5_requirePlace_1 : decode cX5_requirePlace 1 = .ok (.getfield 19, 3) := by decide +kernel
theorem dX5_requirePlace_4 : decode cX5_requirePlace 4 = .ok (.iload_n 1, 1) := by decide +kernel
theorem dX5_requirePlace_5 : decode cX5_requirePlace 5 = .ok (.invokevirtual 254, 3) := by decide +kernel
theorem dX5_requirePlace_8 : decode cX5_requirePlace 8 = .ok (.ifCond .ne 14, 3) := by decide +kernel
theorem dX5_requirePlace_11 : decode cX5_requirePlace 11 = .ok (.new 249, 3) := by decide +kernel
theorem dX5_requirePlace_14 : decode cX5_requirePlace 14 = .ok (.dup, 1) := by decide +kernel
theorem dX5_requirePlace_15 : decode cX5_requirePlace 15 = .ok (.ldc_w 257, 3) := by decide +kernel
theorem dX5_requirePlace_18 : decode cX5_requirePlace 18 = .ok (.invokespecial 253, 3) := by decide +kernel
theorem dX5_requirePlace_21 : decode cX5_requirePlace 21 = .ok (.athrow, 1) := by decide +kernel
theorem dX5_requirePlace_22 : decode cX5_requirePlace 22 = .ok (.return_, 1) := by decide +kernel
set_option maxRecDepth 20000 in
theorem ggX5_requireStore_X3_exists : GoodIn wsX5_requireStore wsX3_exists := goodIn_r _ [8, 9, 15, 16, 17, 18, 19, 20, 21, 22, 23, 24, 25, 26, 27, 28, 29] (by decide +kernel) (by decide +kernel)
set_option maxRecDepth 20000 in
theorem gX5_requireStore_X3_exists : GoodIn wsX5_requireStore (wsV RX5 217 RX3 yX3_exists wsX3_exists) := goodIn_app (goodIn_of _ (by decide +kernel)) ggX5_requireStore_X3_exists
theorem dX5_requireStore_0 : decode cX5_requireStore 0 = .ok (.aload_n 0, 1) := by decide +kernel
theorem dX5_requireStore_1 : decode cX5_requireStore 1 = .ok (.getfield 19, 3) := by decide +kernel
theorem dX5_requireStore_4 : decode cX5_requireStore 4 = .ok (.invokevirtual 217, 3) := by decide +kernel
theorem dX5_requireStore_7 : decode cX5_requireStore 7 = .ok (.ifCond .ne 14, 3) := by decide +kernel
theorem dX5_requireStore_10 : decode cX5_requireStore 10 = .ok (.new 51, 3) := by decide +kernel
theorem dX5_requireStore_13 : decode cX5_requireStore 13 = .ok (.dup, 1) := by decide +kernel
theorem dX5_requireStore_14 : decode cX5_requireStore 14 = .ok (.ldc_w 259, 3) := by decide +kernel
theorem dX5_requireStore_17 : decode cX5_requireStore 17 = .ok (.invokespecial 55, 3) := by decide +kernel
theorem dX5_requireStore_20 : decode cX5_requireStore 20 = .ok (.athrow, 1) := by decide +kernel
theorem dX5_requireStore_21 : decode cX5_requireStore 21 = .ok (.return_, 1) := by decide +kernel
theorem dX5_requireSetting_0 : decode cX5_requireSetting 0 = .ok (.iload_n 0, 1) := by decide +kernel
theorem dX5_requireSetting_1 : decode cX5_requireSetting 1 = .ok (.ifCond .eq 19, 3) := by decide +kernel
theorem dX5_requireSetting_4 : decode cX5_requireSetting 4 = .ok (.iload_n 0, 1) := by decide +kernel
theorem dX5_requireSetting_5 : decode cX5_requireSetting 5 = .ok (.iconst 1, 1) := by decide +kernel
theorem dX5_requireSetting_6 : decode cX5_requireSetting 6 = .ok (.if_icmp .eq 14, 3) := by decide +kernel
theorem dX5_requireSetting_9 : decode cX5_requireSetting 9 = .ok (.new 40, 3) := by decide +kernel
theorem dX5_requireSetting_12 : decode cX5_requireSetting 12 = .ok (.dup, 1) := by decide +kernel
theorem dX5_requireSetting_13 : decode cX5_requireSetting 13 = .ok (.ldc_w 261, 3) := by decide +kernel
theorem dX5_requireSetting_16 : decode cX5_requireSetting 16 = .ok (.invokespecial 44, 3) := by decide +kernel
theorem dX5_requireSetting_19 : decode cX5_requireSetting 19 = .ok (.athrow, 1) := by decide +kernel
theorem dX5_requireSetting_20 : decode cX5_requireSetting 20 = .ok (.return_, 1) := by decide +kernel
set_option maxRecDepth 20000 in
theorem ggX5_requireHammered_X5_isHammered : GoodIn wsX5_requireHammered wsX5_isHammered := goodIn_r _ [6] (by decide +kernel) (by decide +kernel)
set_option maxRecDepth 20000 in
theorem gX5_requireHammered_X5_isHammered : GoodIn wsX5_requireHammered (va_wsS RX5 263 yX5_isHammered wsX5_isHammered) := goodIn_app (goodIn_of _ (by decide +kernel)) ggX5_requireHammered_X5_isHammered
theorem dX5_requireHammered_0 : decode cX5_requireHammered 0 = .ok (.iload_n 0, 1) := by decide +kernel
theorem dX5_requireHammered_1 : decode cX5_requireHammered 1 = .ok (.invokestatic 263, 3) := by decide +kernel
theorem dX5_requireHammered_4 : decode cX5_requireHammered 4 = .ok (.ifCond .ne 14, 3) := by decide +kernel
theorem dX5_requireHammered_7 : decode cX5_requireHammered 7 = .ok (.new 40, 3) := by decide +kernel
theorem dX5_requireHammered_10 : decode cX5_requireHammered 10 = .ok (.dup, 1) := by decide +kernel
theorem dX5_requireHammered_11 : decode cX5_requireHammered 11 = .ok (.ldc_w 266, 3) := by decide +kernel
theorem dX5_requireHammered_14 : decode cX5_requireHammered 14 = .ok (.invokespecial 44, 3) := by decide +kernel
theorem dX5_requireHammered_17 : decode cX5_requireHammered 17 = .ok (.athrow, 1) := by decide +kernel
theorem dX5_requireHammered_18 : decode cX5_requireHammered 18 = .ok (.return_, 1) := by decide +kernel
set_option maxRecDepth 20000 in
theorem ggX5_requireSlot_X2_has : GoodIn wsX5_requireSlot wsX2_has := goodIn_r _ [6] (by decide +kernel) (by decide +kernel)
set_option maxRecDepth 20000 in
theorem gX5_requireSlot_X2_has : GoodIn wsX5_requireSlot (va_wsS RX5 268 yX2_has wsX2_has) := goodIn_app (goodIn_of _ (by decide +kernel)) ggX5_requireSlot_X2_has
theorem dX5_requireSlot_0 : decode cX5_requireSlot 0 = .ok (.iload_n 0, 1) := by decide +kernel
theorem dX5_requireSlot_1 : decode cX5_requireSlot 1 = .ok (.invokestatic 268, 3) := by decide +kernel
theorem dX5_requireSlot_4 : decode cX5_requireSlot 4 = .ok (.ifCond .ne 14, 3) := by decide +kernel
theorem dX5_requireSlot_7 : decode cX5_requireSlot 7 = .ok (.new 249, 3) := by decide +kernel
theorem dX5_requireSlot_10 : decode cX5_requireSlot 10 = .ok (.dup, 1) := by decide +kernel
theorem dX5_requireSlot_11 : decode cX5_requireSlot 11 = .ok (.ldc_w 271, 3) := by decide +kernel
theorem dX5_requireSlot_14 : decode cX5_requireSlot 14 = .ok (.invokespecial 253, 3) := by decide +kernel
theorem dX5_requireSlot_17 : decode cX5_requireSlot 17 = .ok (.athrow, 1) := by decide +kernel
theorem dX5_requireSlot_18 : decode cX5_requireSlot 18 = .ok (.return_, 1) := by decide +kernel
set_option maxRecDepth 20000 in
theorem ggX5_isShape_X5_haveCommonDivisor : GoodIn wsX5_isShape wsX5_haveCommonDivisor := goodIn_r _ [4] (by decide +kernel) (by decide +kernel)
set_option maxRecDepth 20000 in
theorem gX5_isShape_X5_haveCommonDivisor : GoodIn wsX5_isShape (va_wsS RX5 273 yX5_haveCommonDivisor wsX5_haveCommonDivisor) := goodIn_app (goodIn_of _ (by decide +kernel)) ggX5_isShape_X5_haveCommonDivisor
theorem dX5_isShape_0 : decode cX5_isShape 0 = .ok (.iload_n 0, 1) := by decide +kernel
theorem dX5_isShape_1 : decode cX5_isShape 1 = .ok (.iconst 4, 1) := by decide +kernel
theorem dX5_isShape_2 : decode cX5_isShape 2 = .ok (.if_icmp .lt 31, 3) := by decide +kernel
theorem dX5_isShape_5 : decode cX5_isShape 5 = .ok (.iload_n 0, 1) := by decide +kernel
theorem dX5_isShape_6 : decode cX5_isShape 6 = .ok (.bipush 32, 2) := by decide +kernel
theorem dX5_isShape_8 : decode cX5_isShape 8 = .ok (.if_icmp .gt 25, 3) := by decide +kernel
theorem dX5_isShape_11 : decode cX5_isShape 11 = .ok (.iload_n 1, 1) := by decide +kernel
theorem dX5_isShape_12 : decode cX5_isShape 12 = .ok (.iconst 1, 1) := by decide +kernel
theorem dX5_isShape_13 : decode cX5_isShape 13 = .ok (.if_icmp .lt 20, 3) := by decide +kernel
theorem dX5_isShape_16 : decode cX5_isShape 16 = .ok (.iload_n 1, 1) := by decide +kernel
theorem dX5_isShape_17 : decode cX5_isShape 17 = .ok (.iload_n 0, 1) := by decide +kernel
theorem dX5_isShape_18 : decode cX5_isShape 18 = .ok (.if_icmp .ge 15, 3) := by decide +kernel
theorem dX5_isShape_21 : decode cX5_isShape 21 = .ok (.iload_n 0, 1) := by decide +kernel
theorem dX5_isShape_22 : decode cX5_isShape 22 = .ok (.iload_n 1, 1) := by decide +kernel
theorem dX5_isShape_23 : decode cX5_isShape 23 = .ok (.invokestatic 273, 3) := by decide +kernel
theorem dX5_isShape_26 : decode cX5_isShape 26 = .ok (.ifCond .ne 7, 3) := by decide +kernel
theorem dX5_isShape_29 : decode cX5_isShape 29 = .ok (.iconst 1, 1) := by decide +kernel
theorem dX5_isShape_30 : decode cX5_isShape 30 = .ok (.goto 4, 3) := by decide +kernel
theorem dX5_isShape_33 : decode cX5_isShape 33 = .ok (.iconst 0, 1) := by decide +kernel
theorem dX5_isShape_34 : decode cX5_isShape 34 = .ok (.ireturn, 1) := by decide +kernel
theorem dX5_haveCommonDivisor_0 : decode cX5_haveCommonDivisor 0 = .ok (.iconst 2, 1) := by decide +kernel
theorem dX5_haveCommonDivisor_1 : decode cX5_haveCommonDivisor 1 = .ok (.istore_n 2, 1) := by decide +kernel
theorem dX5_haveCommonDivisor_2 : decode cX5_haveCommonDivisor 2 = .ok (.iload_n 2, 1) := by decide +kernel
theorem dX5_haveCommonDivisor_3 : decode cX5_haveCommonDivisor 3 = .ok (.iload_n 1, 1) := by decide +kernel
theorem dX5_haveCommonDivisor_4 : decode cX5_haveCommonDivisor 4 = .ok (.if_icmp .gt 23, 3) := by decide +kernel
theorem dX5_haveCommonDivisor_7 : decode cX5_haveCommonDivisor 7 = .ok (.iload_n 0, 1) := by decide +kernel
theorem dX5_haveCommonDivisor_8 : decode cX5_haveCommonDivisor 8 = .ok (.iload_n 2, 1) := by decide +kernel
theorem dX5_haveCommonDivisor_9 : decode cX5_haveCommonDivisor 9 = .ok (.irem, 1) := by decide +kernel
theorem dX5_haveCommonDivisor_10 : decode cX5_haveCommonDivisor 10 = .ok (.ifCond .ne 11, 3) := by decide +kernel
theorem dX5_haveCommonDivisor_13 : decode cX5_haveCommonDivisor 13 = .ok (.iload_n 1, 1) := by decide +kernel
theorem dX5_haveCommonDivisor_14 : decode cX5_haveCommonDivisor 14 = .ok (.iload_n 2, 1) := by decide +kernel
theorem dX5_haveCommonDivisor_15 : decode cX5_haveCommonDivisor 15 = .ok (.irem, 1) := by decide +kernel
theorem dX5_haveCommonDivisor_16 : decode cX5_haveCommonDivisor 16 = .ok (.ifCond .ne 5, 3) := by decide +kernel
theorem dX5_haveCommonDivisor_19 : decode cX5_haveCommonDivisor 19 = .ok (.iconst 1, 1) := by decide +kernel
theorem dX5_haveCommonDivisor_20 : decode cX5_haveCommonDivisor 20 = .ok (.ireturn, 1) := by decide +kernel
theorem dX5_haveCommonDivisor_21 : decode cX5_haveCommonDivisor 21 = .ok (.iinc 2 1, 3) := by decide +kernel
theorem dX5_haveCommonDivisor_24 : decode cX5_haveCommonDivisor 24 = .ok (.goto (-22), 3) := by decide +kernel
theorem dX5_haveCommonDivisor_27 : decode cX5_haveCommonDivisor 27 = .ok (.iconst 0, 1) := by decide +kernel
theorem dX5_haveCommonDivisor_28 : decode cX5_haveCommonDivisor 28 = .ok (.ireturn, 1) := by decide +kernel
theorem dX5_isValue_0 : decode cX5_isValue 0 = .ok (.iload_n 0, 1) := by decide +kernel
theorem dX5_isValue_1 : decode cX5_isValue 1 = .ok (.ifCond .lt 14, 3) := by decide +kernel
theorem dX5_isValue_4 : decode cX5_isValue 4 = .ok (.iload_n 0, 1) := by decide +kernel
theorem dX5_isValue_5 : decode cX5_isValue 5 = .ok (.sipush 999, 3) := by decide +kernel
theorem dX5_isValue_8 : decode cX5_isValue 8 = .ok (.if_icmp .gt 7, 3) := by decide +kernel
theorem dX5_isValue_11 : decode cX5_isValue 11 = .ok (.iconst 1, 1) := by decide +kernel
theorem dX5_isValue_12 : decode cX5_isValue 12 = .ok (.goto 4, 3) := by decide +kernel
theorem dX5_isValue_15 : decode cX5_isValue 15 = .ok (.iconst 0, 1) := by decide +kernel
theorem dX5_isValue_16 : decode cX5_isValue 16 = .ok (.ireturn, 1) := by decide +kernel
theorem dX5_isHammered_0 : decode cX5_isHammered 0 = .ok (.iload_n 0, 1) := by decide +kernel
theorem dX5_isHammered_1 : decode cX5_isHammered 1 = .ok (.iconst 1, 1) := by decide +kernel
theorem dX5_isHammered_2 : decode cX5_isHammered 2 = .ok (.if_icmp .lt 14, 3) := by decide +kernel
theorem dX5_isHammered_5 : decode cX5_isHammered 5 = .ok (.iload_n 0, 1) := by decide +kernel
theorem dX5_isHammered_6 : decode cX5_isHammered 6 = .ok (.sipush 500, 3) := by decide +kernel
theorem dX5_isHammered_9 : decode cX5_isHammered 9 = .ok (.if_icmp .gt 7, 3) := by decide +kernel
theorem dX5_isHammered_12 : decode cX5_isHammered 12 = .ok (.iconst 1, 1) := by decide +kernel
theorem dX5_isHammered_13 : decode cX5_isHammered 13 = .ok (.goto 4, 3) := by decide +kernel
theorem dX5_isHammered_16 : decode cX5_isHammered 16 = .ok (.iconst 0, 1) := by decide +kernel
theorem dX5_isHammered_17 : decode cX5_isHammered 17 = .ok (.ireturn, 1) := by decide +kernel
theorem dX5_isRounds_0 : decode cX5_isRounds 0 = .ok (.iload_n 0, 1) := by decide +kernel
theorem dX5_isRounds_1 : decode cX5_isRounds 1 = .ok (.iconst 1, 1) := by decide +kernel
theorem dX5_isRounds_2 : decode cX5_isRounds 2 = .ok (.if_icmp .lt 13, 3) := by decide +kernel
theorem dX5_isRounds_5 : decode cX5_isRounds 5 = .ok (.iload_n 0, 1) := by decide +kernel
theorem dX5_isRounds_6 : decode cX5_isRounds 6 = .ok (.bipush 50, 2) := by decide +kernel
theorem dX5_isRounds_8 : decode cX5_isRounds 8 = .ok (.if_icmp .gt 7, 3) := by decide +kernel
theorem dX5_isRounds_11 : decode cX5_isRounds 11 = .ok (.iconst 1, 1) := by decide +kernel
theorem dX5_isRounds_12 : decode cX5_isRounds 12 = .ok (.goto 4, 3) := by decide +kernel
theorem dX5_isRounds_15 : decode cX5_isRounds 15 = .ok (.iconst 0, 1) := by decide +kernel
theorem dX5_isRounds_16 : decode cX5_isRounds 16 = .ok (.ireturn, 1) := by decide +kernel
theorem dX5_isSettingValue_0 : decode cX5_isSettingValue 0 = .ok (.iload_n 0, 1) := by decide +kernel
theorem dX5_isSettingValue_1 : decode cX5_isSettingValue 1 = .ok (.ifCond .ne 21, 3) := by decide +kernel
theorem dX5_isSettingValue_4 : decode cX5_isSettingValue 4 = .ok (.iload_n 1, 1) := by decide +kernel
theorem dX5_isSettingValue_5 : decode cX5_isSettingValue 5 = .ok (.iconst 5, 1) := by decide +kernel
theorem dX5_isSettingValue_6 : decode cX5_isSettingValue 6 = .ok (.if_icmp .lt 14, 3) := by decide +kernel
theorem dX5_isSettingValue_9 : decode cX5_isSettingValue 9 = .ok (.iload_n 1, 1) := by decide +kernel
theorem dX5_isSettingValue_10 : decode cX5_isSettingValue 10 = .ok (.sipush 999, 3) := by decide +kernel
theorem dX5_isSettingValue_13 : decode cX5_isSettingValue 13 = .ok (.if_icmp .gt 7, 3) := by decide +kernel
theorem dX5_isSettingValue_16 : decode cX5_isSettingValue 16 = .ok (.iconst 1, 1) := by decide +kernel
theorem dX5_isSettingValue_17 : decode cX5_isSettingValue 17 = .ok (.goto 4, 3) := by decide +kernel
theorem dX5_isSettingValue_20 : decode cX5_isSettingValue 20 = .ok (.iconst 0, 1) := by decide +kernel
theorem dX5_isSettingValue_21 : decode cX5_isSettingValue 21 = .ok (.ireturn, 1) := by decide +kernel
theorem dX5_isSettingValue_22 : decode cX5_isSettingValue 22 = .ok (.iload_n 0, 1) := by decide +kernel
theorem dX5_isSettingValue_23 : decode cX5_isSettingValue 23 = .ok (.iconst 1, 1) := by decide +kernel
theorem dX5_isSettingValue_24 : decode cX5_isSettingValue 24 = .ok (.if_icmp .ne 18, 3) := by decide +kernel
theorem dX5_isSettingValue_27 : decode cX5_isSettingValue 27 = .ok (.iload_n 1, 1) := by decide +kernel
theorem dX5_isSettingValue_28 : decode cX5_isSettingValue 28 = .ok (.iconst 1, 1) := by decide +kernel
theorem dX5_isSettingValue_29 : decode cX5_isSettingValue 29 = .ok (.if_icmp .lt 13, 3) := by decide +kernel
theorem dX5_isSettingValue_32 : decode cX5_isSettingValue 32 = .ok (.iload_n 1, 1) := by decide +kernel
theorem dX5_isSettingValue_33 : decode cX5_isSettingValue 33 = .ok (.bipush 50, 2) := by decide +kernel
theorem dX5_isSettingValue_35 : decode cX5_isSettingValue 35 = .ok (.if_icmp .gt 7, 3) := by decide +kernel
theorem dX5_isSettingValue_38 : decode cX5_isSettingValue 38 = .ok (.iconst 1, 1) := by decide +kernel
theorem dX5_isSettingValue_39 : decode cX5_isSettingValue 39 = .ok (.goto 4, 3) := by decide +kernel
theorem dX5_isSettingValue_42 : decode cX5_isSettingValue 42 = .ok (.iconst 0, 1) := by decide +kernel
theorem dX5_isSettingValue_43 : decode cX5_isSettingValue 43 = .ok (.ireturn, 1) := by decide +kernel
set_option maxRecDepth 20000 in
theorem ggX5_wearIfEvery_X3_copyFrom : GoodIn wsX5_wearIfEvery wsX3_copyFrom := goodIn_r _ [8, 9, 10, 11, 12, 13, 14, 15, 16, 17, 18, 19, 20, 21, 22, 23, 24, 25, 26, 27, 73, 74, 75, 76, 77, 78, 79, 80, 81, 82, 83, 84, 85, 86, 87] (by decide +kernel) (by decide +kernel)
set_option maxRecDepth 20000 in
theorem gX5_wearIfEvery_X3_copyFrom : GoodIn wsX5_wearIfEvery (wsV RX5 182 RX3 yX3_copyFrom wsX3_copyFrom) := goodIn_app (goodIn_of _ (by decide +kernel)) ggX5_wearIfEvery_X3_copyFrom
set_option maxRecDepth 20000 in
theorem ggX5_wearIfEvery_X3_hammerLine : GoodIn wsX5_wearIfEvery wsX3_hammerLine := goodIn_r _ [31, 19, 32, 33, 34, 7, 35, 22, 36, 37, 38, 39, 9, 40, 41, 42, 43, 14, 16, 21, 44, 45, 46, 47, 11, 12, 48, 49, 50, 51, 10, 52, 53, 54, 55, 27, 18, 20, 13, 17, 56, 57, 58, 59, 15, 73, 74, 75, 76, 77, 78, 79, 80, 81, 82, 83, 84, 85, 86, 87] (by decide +kernel) (by decide +kernel)
set_option maxRecDepth 20000 in
theorem gX5_wearIfEvery_X3_hammerLine : GoodIn wsX5_wearIfEvery (wsV RX5 146 RX3 yX3_hammerLine wsX3_hammerLine) := goodIn_app (goodIn_of _ (by decide +kernel)) ggX5_wearIfEvery_X3_hammerLine
set_option maxRecDepth 20000 in
theorem ggX5_wearIfEvery_X3_greatestWear : GoodIn wsX5_wearIfEvery wsX3_greatestWear := goodIn_r _ [63, 27, 9, 64, 65, 66, 67, 73, 74, 75, 76, 77, 78, 79, 80, 81, 82, 83, 84, 85, 86, 87] (by decide +kernel) (by decide +kernel)
set_option maxRecDepth 20000 in
theorem gX5_wearIfEvery_X3_greatestWear : GoodIn wsX5_wearIfEvery (wsV RX5 227 RX3 yX3_greatestWear wsX3_greatestWear) := goodIn_app (goodIn_of _ (by decide +kernel)) ggX5_wearIfEvery_X3_greatestWear
theorem dX5_wearIfEvery_0 : decode cX5_wearIfEvery 0 = .ok (.aload_n 0, 1) := by decide +kernel
theorem dX5_wearIfEvery_1 : decode cX5_wearIfEvery 1 = .ok (.getfield 23, 3) := by decide +kernel
theorem dX5_wearIfEvery_4 : decode cX5_wearIfEvery 4 = .ok (.aload_n 0, 1) := by decide +kernel
theorem dX5_wearIfEvery_5 : decode cX5_wearIfEvery 5 = .ok (.getfield 19, 3) := by decide +kernel
theorem dX5_wearIfEvery_8 : decode cX5_wearIfEvery 8 = .ok (.invokevirtual 182, 3) := by decide +kernel
theorem dX5_wearIfEvery_11 : decode cX5_wearIfEvery 11 = .ok (.aload_n 0, 1) := by decide +kernel
theorem dX5_wearIfEvery_12 : decode cX5_wearIfEvery 12 = .ok (.getfield 23, 3) := by decide +kernel
theorem dX5_wearIfEvery_15 : decode cX5_wearIfEvery 15 = .ok (.iload_n 2, 1) := by decide +kernel
theorem dX5_wearIfEvery_16 : decode cX5_wearIfEvery 16 = .ok (.putfield 276, 3) := by decide +kernel
theorem dX5_wearIfEvery_19 : decode cX5_wearIfEvery 19 = .ok (.aload_n 0, 1) := by decide +kernel
theorem dX5_wearIfEvery_20 : decode cX5_wearIfEvery 20 = .ok (.getfield 23, 3) := by decide +kernel
theorem dX5_wearIfEvery_23 : decode cX5_wearIfEvery 23 = .ok (.iload_n 1, 1) := by decide +kernel
theorem dX5_wearIfEvery_24 : decode cX5_wearIfEvery 24 = .ok (.iload_n 3, 1) := by decide +kernel
theorem dX5_wearIfEvery_25 : decode cX5_wearIfEvery 25 = .ok (.invokevirtual 146, 3) := by decide +kernel
theorem dX5_wearIfEvery_28 : decode cX5_wearIfEvery 28 = .ok (.pop, 1) := by decide +kernel
theorem dX5_wearIfEvery_29 : decode cX5_wearIfEvery 29 = .ok (.aload_n 0, 1) := by decide +kernel
theorem dX5_wearIfEvery_30 : decode cX5_wearIfEvery 30 = .ok (.getfield 23, 3) := by decide +kernel
theorem dX5_wearIfEvery_33 : decode cX5_wearIfEvery 33 = .ok (.invokevirtual 227, 3) := by decide +kernel
theorem dX5_wearIfEvery_36 : decode cX5_wearIfEvery 36 = .ok (.ireturn, 1) := by decide +kernel
theorem dX5_withoutLastCommands_0 : decode cX5_withoutLastCommands 0 = .ok (.lload_n 0, 1) := by decide +kernel
theorem dX5_withoutLastCommands_1 : decode cX5_withoutLastCommands 1 = .ok (.lstore_n 3, 1) := by decide +kernel
theorem dX5_withoutLastCommands_2 : decode cX5_withoutLastCommands 2 = .ok (.iconst 0, 1) := by decide +kernel
theorem dX5_withoutLastCommands_3 : decode cX5_withoutLastCommands 3 = .ok (.istore 5, 2) := by decide +kernel
theorem dX5_withoutLastCommands_5 : decode cX5_withoutLastCommands 5 = .ok (.iload 5, 2) := by decide +kernel
theorem dX5_withoutLastCommands_7 : decode cX5_withoutLastCommands 7 = .ok (.iload_n 2, 1) := by decide +kernel
theorem dX5_withoutLastCommands_8 : decode cX5_withoutLastCommands 8 = .ok (.if_icmp .ge 15, 3) := by decide +kernel
theorem dX5_withoutLastCommands_11 : decode cX5_withoutLastCommands 11 = .ok (.lload_n 3, 1) := by decide +kernel
theorem dX5_withoutLastCommands_12 : decode cX5_withoutLastCommands 12 = .ok (.ldc2_w 207, 3) := by decide +kernel
theorem dX5_withoutLastCommands_15 : decode cX5_withoutLastCommands 15 = .ok (.ldiv, 1) := by decide +kernel
theorem dX5_withoutLastCommands_16 : decode cX5_withoutLastCommands 16 = .ok (.lstore_n 3, 1) := by decide +kernel
theorem dX5_withoutLastCommands_17 : decode cX5_withoutLastCommands 17 = .ok (.iinc 5 1, 3) := by decide +kernel
theorem dX5_withoutLastCommands_20 : decode cX5_withoutLastCommands 20 = .ok (.goto (-15), 3) := by decide +kernel
theorem dX5_withoutLastCommands_23 : decode cX5_withoutLastCommands 23 = .ok (.lload_n 3, 1) := by decide +kernel
theorem dX5_withoutLastCommands_24 : decode cX5_withoutLastCommands 24 = .ok (.lreturn, 1) := by decide +kernel
end
section
theorem dJ9_max_7cf53_0 : decode cJ9_max_7cf53 0 = .ok (.iload_n 0, 1) := by decide +kernel
theorem dJ9_max_7cf53_1 : decode cJ9_max_7cf53 1 = .ok (.iload_n 1, 1) := by decide +kernel
theorem dJ9_max_7cf53_2 : decode cJ9_max_7cf53 2 = .ok (.if_icmp .lt 7, 3) := by decide +kernel
theorem dJ9_max_7cf53_5 : decode cJ9_max_7cf53 5 = .ok (.iload_n 0, 1) := by decide +kernel
theorem dJ9_max_7cf53_6 : decode cJ9_max_7cf53 6 = .ok (.goto 4, 3) := by decide +kernel
theorem dJ9_max_7cf53_9 : decode cJ9_max_7cf53 9 = .ok (.iload_n 1, 1) := by decide +kernel
theorem dJ9_max_7cf53_10 : decode cJ9_max_7cf53 10 = .ok (.ireturn, 1) := by decide +kernel
theorem dJ9_min_7cf53_0 : decode cJ9_min_7cf53 0 = .ok (.iload_n 0, 1) := by decide +kernel
theorem dJ9_min_7cf53_1 : decode cJ9_min_7cf53 1 = .ok (.iload_n 1, 1) := by decide +kernel
theorem dJ9_min_7cf53_2 : decode cJ9_min_7cf53 2 = .ok (.if_icmp .gt 7, 3) := by decide +kernel
theorem dJ9_min_7cf53_5 : decode cJ9_min_7cf53 5 = .ok (.iload_n 0, 1) := by decide +kernel
theorem dJ9_min_7cf53_6 : decode cJ9_min_7cf53 6 = .ok (.goto 4, 3) := by decide +kernel
theorem dJ9_min_7cf53_9 : decode cJ9_min_7cf53 9 = .ok (.iload_n 1, 1) := by decide +kernel
theorem dJ9_min_7cf53_10 : decode cJ9_min_7cf53 10 = .ok (.ireturn, 1) := by decide +kernel
set_option maxRecDepth 20000 in
theorem ggL_doScript_X5_runScript : GoodIn wsL_doScript wsX5_runScript := goodIn_ca (goodIn_r _ [7, 8, 9, 10, 11, 12, 13, 14, 6, 15, 16, 17, 18, 19, 20, 21, 22, 23, 24, 25, 26, 27, 28, 29, 30, 31, 32, 33, 34, 35, 36, 37, 38, 39, 40, 41, 42, 43, 44, 45, 46, 47, 48, 49, 50, 51, 52, 53, 54, 55, 56, 57, 58, 59, 60, 61, 62, 63, 64, 65, 66, 67, 68, 69, 70, 71, 72, 73, 74, 75, 76, 77, 78, 79, 80, 81, 82, 83, 84, 85, 86, 87, 88, 89, 90, 91, 92, 93, 94, 95, 96, 97, 98, 99, 100, 101, 102, 103, 104, 105, 106, 107, 108, 109, 110, 111, 112, 113, 114, 115, 116, 117, 118, 119, 120, 121, 122, 123, 124, 125, 126, 127, 128, 129, 130, 131, 132, 133, 134, 135, 136, 137, 138, 139, 140, 141, 142, 143, 144, 145, 146, 147] (by decide +kernel) (by decide +kernel)) (goodIn_sub (fun _ h => List.mem_cons_of_mem _ (List.mem_append_right _ h)) (by decide +kernel))
set_option maxRecDepth 20000 in
theorem gL_doScript_X5_runScript : GoodIn wsL_doScript (wsV RL 7 RX5 yX5_runScript wsX5_runScript) := goodIn_app (goodIn_of _ (by decide +kernel)) ggL_doScript_X5_runScript
theorem dL_doScript_0 : decode cL_doScript 0 = .ok (.aload_n 0, 1) := by decide +kernel
theorem dL_doScript_1 : decode cL_doScript 1 = .ok (.iload_n 1, 1) := by decide +kernel
theorem dL_doScript_2 : decode cL_doScript 2 = .ok (.lload_n 2, 1) := by decide +kernel
theorem dL_doScript_3 : decode cL_doScript 3 = .ok (.invokevirtual 7, 3) := by decide +kernel
theorem dL_doScript_6 : decode cL_doScript 6 = .ok (.ireturn, 1) := by decide +kernel
theorem dL_doScript_7 : decode cL_doScript 7 = .ok (.astore 4, 2) := by decide +kernel
theorem dL_doScript_9 : decode cL_doScript 9 = .ok (.ldc 15, 2) := by decide +kernel
theorem dL_doScript_11 : decode cL_doScript 11 = .ok (.ireturn, 1) := by decide +kernel
set_option maxRecDepth 20000 in
theorem ggL_doSimulate_X5_simulate : GoodIn wsL_doSimulate wsX5_simulate := goodIn_ca (goodIn_r _ [7, 8, 9, 10, 11, 12, 13, 14, 15, 16, 17, 18, 19, 20, 21, 22, 23, 24, 25, 26, 27, 28, 29, 30, 31, 32, 33, 34, 35, 36, 37, 38, 39, 40, 41, 42, 43, 44, 45, 46, 47, 48, 49, 50, 51, 52, 53, 54, 55, 56, 57, 58, 59, 60, 61, 62, 63, 64, 65, 66, 67, 68, 69, 70, 71, 72, 73, 74, 75, 76, 77, 78, 79, 80, 81, 82, 83, 84, 85, 86, 87, 88, 89, 90, 91, 92, 93, 94, 95, 96, 97, 98, 99] (by decide +kernel) (by decide +kernel)) (goodIn_sub (fun _ h => List.mem_cons_of_mem _ (List.mem_append_right _ h)) (by decide +kernel))
set_option maxRecDepth 20000 in
theorem gL_doSimulate_X5_simulate : GoodIn wsL_doSimulate (wsV RL 16 RX5 yX5_simulate wsX5_simulate) := goodIn_app (goodIn_of _ (by decide +kernel)) ggL_doSimulate_X5_simulate
theorem dL_doSimulate_0 : decode cL_doSimulate 0 = .ok (.aload_n 0, 1) := by decide +kernel
theorem dL_doSimulate_1 : decode cL_doSimulate 1 = .ok (.lload_n 1, 1) := by decide +kernel
theorem dL_doSimulate_2 : decode cL_doSimulate 2 = .ok (.iload_n 3, 1) := by decide +kernel
theorem dL_doSimulate_3 : decode cL_doSimulate 3 = .ok (.invokevirtual 16, 3) := by decide +kernel
theorem dL_doSimulate_6 : decode cL_doSimulate 6 = .ok (.ireturn, 1) := by decide +kernel
theorem dL_doSimulate_7 : decode cL_doSimulate 7 = .ok (.astore 4, 2) := by decide +kernel
theorem dL_doSimulate_9 : decode cL_doSimulate 9 = .ok (.ldc 15, 2) := by decide +kernel
theorem dL_doSimulate_11 : decode cL_doSimulate 11 = .ok (.ireturn, 1) := by decide +kernel
set_option maxRecDepth 20000 in
theorem ggL_tryAppend_X5_append : GoodIn wsL_tryAppend wsX5_append := goodIn_ca (goodIn_ca (goodIn_r _ [9, 10, 11, 12, 13, 14, 15, 16, 17, 18, 19, 20, 21, 22, 23, 24, 25, 26, 27, 28, 29, 30, 31, 32, 33] (by decide +kernel) (by decide +kernel)) (goodIn_sub (fun _ h => List.mem_cons_of_mem _ (List.mem_append_left _ (List.mem_append_right _ h))) (by decide +kernel))) (goodIn_sub (fun _ h => List.mem_cons_of_mem _ (List.mem_append_right _ h)) (by decide +kernel))
set_option maxRecDepth 20000 in
theorem gL_tryAppend_X5_append : GoodIn wsL_tryAppend (wsV RL 20 RX5 yX5_append wsX5_append) := goodIn_app (goodIn_of _ (by decide +kernel)) ggL_tryAppend_X5_append
theorem dL_tryAppend_0 : decode cL_tryAppend 0 = .ok (.aload_n 0, 1) := by decide +kernel
theorem dL_tryAppend_1 : decode cL_tryAppend 1 = .ok (.iload_n 1, 1) := by decide +kernel
theorem dL_tryAppend_2 : decode cL_tryAppend 2 = .ok (.invokevirtual 20, 3) := by decide +kernel
theorem dL_tryAppend_5 : decode cL_tryAppend 5 = .ok (.ireturn, 1) := by decide +kernel
theorem dL_tryAppend_6 : decode cL_tryAppend 6 = .ok (.astore_n 2, 1) := by decide +kernel
theorem dL_tryAppend_7 : decode cL_tryAppend 7 = .ok (.ldc 15, 2) := by decide +kernel
theorem dL_tryAppend_9 : decode cL_tryAppend 9 = .ok (.ireturn, 1) := by decide +kernel
theorem dL_tryAppend_10 : decode cL_tryAppend 10 = .ok (.astore_n 2, 1) := by decide +kernel
theorem dL_tryAppend_11 : decode cL_tryAppend 11 = .ok (.ldc 26, 2) := by decide +kernel
theorem dL_tryAppend_13 : decode cL_tryAppend 13 = .ok (.ireturn, 1) := by decide +kernel
set_option maxRecDepth 20000 in
theorem ggL_tryLoad_X5_load : GoodIn wsL_tryLoad wsX5_load := goodIn_ca (goodIn_r _ [7, 8, 9, 10, 11, 12, 13, 14, 15, 16, 17, 18, 19, 20, 21, 22, 23, 24, 25, 26, 27, 28, 29, 30, 31, 32, 33, 34, 35, 36, 37, 38, 39, 40, 41, 42, 43, 44, 45, 46, 47, 48, 49, 50, 51, 52, 53, 54, 55, 56, 57, 58, 59, 60, 61, 62, 63, 64, 65, 66, 67, 68, 69, 70, 71, 72, 73, 74, 75, 76, 77, 78, 79, 80, 81, 82, 83, 84, 85, 6, 86, 87, 88, 89, 90, 91, 92, 93, 94, 95, 96, 97, 98, 99, 100, 101, 102, 103, 104, 105, 106, 107, 108, 109, 110, 111, 112, 113, 114, 115, 116, 117, 118, 119, 120, 121, 122, 123, 124, 125, 126, 127, 128, 129, 130, 131, 132, 133, 134, 135, 136, 137, 138, 139, 140, 141, 142, 143, 144, 145, 146, 147, 148, 149, 150, 151, 152, 153, 154, 155, 156, 157, 158, 159, 160, 161, 162, 163, 164, 165, 166, 167, 168, 169, 170, 171, 172, 173, 174, 175] (by decide +kernel) (by decide +kernel)) (goodIn_sub (fun _ h => List.mem_cons_of_mem _ (List.mem_append_right _ h)) (by decide +kernel))
set_option maxRecDepth 20000 in
theorem gL_tryLoad_X5_load : GoodIn wsL_tryLoad (wsV RL 27 RX5 yX5_load wsX5_load) := goodIn_app (goodIn_of _ (by decide +kernel)) ggL_tryLoad_X5_load
theorem dL_tryLoad_0 : decode cL_tryLoad 0 = .ok (.aload_n 0, 1) := by decide +kernel
theorem dL_tryLoad_1 : decode cL_tryLoad 1 = .ok (.invokevirtual 27, 3) := by decide +kernel
theorem dL_tryLoad_4 : decode cL_tryLoad 4 = .ok (.ireturn, 1) := by decide +kernel
theorem dL_tryLoad_5 : decode cL_tryLoad 5 = .ok (.astore_n 1, 1) := by decide +kernel
theorem dL_tryLoad_6 : decode cL_tryLoad 6 = .ok (.ldc 26, 2) := by decide +kernel
theorem dL_tryLoad_8 : decode cL_tryLoad 8 = .ok (.ireturn, 1) := by decide +kernel
set_option maxRecDepth 20000 in
theorem ggL_tryAbout_X5_about : GoodIn wsL_tryAbout wsX5_about := goodIn_ca (goodIn_r _ [7, 8, 9, 10, 11, 12, 13, 14, 15, 16, 17, 18, 19, 20, 21, 22, 23, 24, 25, 26, 27, 28, 29, 30, 31, 32, 33, 34, 35, 36, 37, 38, 39, 40, 41, 42, 43, 44, 45, 46, 47, 48, 49, 50, 51, 52, 53, 54, 55, 56, 57, 58, 59, 60, 61] (by decide +kernel) (by decide +kernel)) (goodIn_sub (fun _ h => List.mem_cons_of_mem _ (List.mem_append_right _ h)) (by decide +kernel))
set_option maxRecDepth 20000 in
theorem gL_tryAbout_X5_about : GoodIn wsL_tryAbout (wsV RL 31 RX5 yX5_about wsX5_about) := goodIn_app (goodIn_of _ (by decide +kernel)) ggL_tryAbout_X5_about
theorem dL_tryAbout_0 : decode cL_tryAbout 0 = .ok (.aload_n 0, 1) := by decide +kernel
theorem dL_tryAbout_1 : decode cL_tryAbout 1 = .ok (.iload_n 1, 1) := by decide +kernel
theorem dL_tryAbout_2 : decode cL_tryAbout 2 = .ok (.invokevirtual 31, 3) := by decide +kernel
theorem dL_tryAbout_5 : decode cL_tryAbout 5 = .ok (.ireturn, 1) := by decide +kernel
theorem dL_tryAbout_6 : decode cL_tryAbout 6 = .ok (.astore_n 2, 1) := by decide +kernel
theorem dL_tryAbout_7 : decode cL_tryAbout 7 = .ok (.ldc 15, 2) := by decide +kernel
theorem dL_tryAbout_9 : decode cL_tryAbout 9 = .ok (.ireturn, 1) := by decide +kernel
set_option maxRecDepth 20000 in
theorem ggL_tryRead_X5_read : GoodIn wsL_tryRead wsX5_read := goodIn_ca (goodIn_r _ [7, 8, 9, 10, 11, 6, 12, 13, 14, 15, 16, 17, 18, 19, 20, 21, 22, 23, 24, 25, 26, 27, 28, 29, 30, 31, 32, 33, 34, 35, 36, 37, 38, 39, 40, 41, 42, 43, 44, 45, 46] (by decide +kernel) (by decide +kernel)) (goodIn_sub (fun _ h => List.mem_cons_of_mem _ (List.mem_append_right _ h)) (by decide +kernel))
set_option maxRecDepth 20000 in
theorem gL_tryRead_X5_read : GoodIn wsL_tryRead (wsV RL 34 RX5 yX5_read wsX5_read) := goodIn_app (goodIn_of _ (by decide +kernel)) ggL_tryRead_X5_read
theorem dL_tryRead_0 : decode cL_tryRead 0 = .ok (.aload_n 0, 1) := by decide +kernel
theorem dL_tryRead_1 : decode cL_tryRead 1 = .ok (.iload_n 1, 1) := by decide +kernel
theorem dL_tryRead_2 : decode cL_tryRead 2 = .ok (.invokevirtual 34, 3) := by decide +kernel
theorem dL_tryRead_5 : decode cL_tryRead 5 = .ok (.ireturn, 1) := by decide +kernel
theorem dL_tryRead_6 : decode cL_tryRead 6 = .ok (.astore_n 2, 1) := by decide +kernel
theorem dL_tryRead_7 : decode cL_tryRead 7 = .ok (.ldc 39, 2) := by decide +kernel
theorem dL_tryRead_9 : decode cL_tryRead 9 = .ok (.ireturn, 1) := by decide +kernel
set_option maxRecDepth 20000 in
theorem ggL_tryPlace_X5_place : GoodIn wsL_tryPlace wsX5_place := goodIn_ca (goodIn_r _ [7, 8, 9, 10, 11, 6, 12, 13, 14, 15, 16, 17, 18, 19, 20, 21, 22, 23, 24, 25, 26, 27, 28, 29, 30, 31, 32, 33, 34, 35, 36, 37, 38, 39, 40, 41, 42, 43, 44, 45, 46, 47, 48, 49, 50, 51] (by decide +kernel) (by decide +kernel)) (goodIn_sub (fun _ h => List.mem_cons_of_mem _ (List.mem_append_right _ h)) (by decide +kernel))
set_option maxRecDepth 20000 in
theorem gL_tryPlace_X5_place : GoodIn wsL_tryPlace (wsV RL 40 RX5 yX5_place wsX5_place) := goodIn_app (goodIn_of _ (by decide +kernel)) ggL_tryPlace_X5_place
theorem dL_tryPlace_0 : decode cL_tryPlace 0 = .ok (.aload_n 0, 1) := by decide +kernel
theorem dL_tryPlace_1 : decode cL_tryPlace 1 = .ok (.iload_n 1, 1) := by decide +kernel
theorem dL_tryPlace_2 : decode cL_tryPlace 2 = .ok (.invokevirtual 40, 3) := by decide +kernel
theorem dL_tryPlace_5 : decode cL_tryPlace 5 = .ok (.ireturn, 1) := by decide +kernel
theorem dL_tryPlace_6 : decode cL_tryPlace 6 = .ok (.astore_n 2, 1) := by decide +kernel
theorem dL_tryPlace_7 : decode cL_tryPlace 7 = .ok (.ldc 39, 2) := by decide +kernel
theorem dL_tryPlace_9 : decode cL_tryPlace 9 = .ok (.ireturn, 1) := by decide +kernel
set_option maxRecDepth 20000 in
theorem ggL_tryLine_X5_line : GoodIn wsL_tryLine wsX5_line := goodIn_ca (goodIn_r _ [7, 8, 9, 10, 11, 6, 12, 13, 14, 15, 16, 17, 18, 19, 20, 21, 22, 23, 24, 25, 26, 27, 28, 29, 30, 31, 32, 33, 34, 35, 36, 37, 38, 39, 40, 41, 42, 43, 44, 45, 46, 47, 48, 49, 50, 51] (by decide +kernel) (by decide +kernel)) (goodIn_sub (fun _ h => List.mem_cons_of_mem _ (List.mem_append_right _ h)) (by decide +kernel))
set_option maxRecDepth 20000 in
theorem gL_tryLine_X5_line : GoodIn wsL_tryLine (wsV RL 43 RX5 yX5_line wsX5_line) := goodIn_app (goodIn_of _ (by decide +kernel)) ggL_tryLine_X5_line
theorem dL_tryLine_0 : decode cL_tryLine 0 = .ok (.aload_n 0, 1) := by decide +kernel
theorem dL_tryLine_1 : decode cL_tryLine 1 = .ok (.iload_n 1, 1) := by decide +kernel
theorem dL_tryLine_2 : decode cL_tryLine 2 = .ok (.invokevirtual 43, 3) := by decide +kernel
theorem dL_tryLine_5 : decode cL_tryLine 5 = .ok (.ireturn, 1) := by decide +kernel
theorem dL_tryLine_6 : decode cL_tryLine 6 = .ok (.astore_n 2, 1) := by decide +kernel
theorem dL_tryLine_7 : decode cL_tryLine 7 = .ok (.ldc 39, 2) := by decide +kernel
theorem dL_tryLine_9 : decode cL_tryLine 9 = .ok (.ireturn, 1) := by decide +kernel
set_option maxRecDepth 20000 in
theorem ggL_tryWear_X5_wear : GoodIn wsL_tryWear wsX5_wear := goodIn_ca (goodIn_r _ [7, 8, 9, 10, 11, 6, 12, 13, 14, 15, 16, 17, 18, 19, 20, 21, 22, 23, 24, 25, 26, 27, 28, 29, 30, 31, 32, 33, 34, 35, 36, 37, 38, 39, 40, 41, 42, 43, 44, 45, 46] (by decide +kernel) (by decide +kernel)) (goodIn_sub (fun _ h => List.mem_cons_of_mem _ (List.mem_append_right _ h)) (by decide +kernel))
set_option maxRecDepth 20000 in
theorem gL_tryWear_X5_wear : GoodIn wsL_tryWear (wsV RL 46 RX5 yX5_wear wsX5_wear) := goodIn_app (goodIn_of _ (by decide +kernel)) ggL_tryWear_X5_wear
theorem dL_tryWear_0 : decode cL_tryWear 0 = .ok (.aload_n 0, 1) := by decide +kernel
theorem dL_tryWear_1 : decode cL_tryWear 1 = .ok (.iload_n 1, 1) := by decide +kernel
theorem dL_tryWear_2 : decode cL_tryWear 2 = .ok (.invokevirtual 46, 3) := by decide +kernel
theorem dL_tryWear_5 : decode cL_tryWear 5 = .ok (.ireturn, 1) := by decide +kernel
theorem dL_tryWear_6 : decode cL_tryWear 6 = .ok (.astore_n 2, 1) := by decide +kernel
theorem dL_tryWear_7 : decode cL_tryWear 7 = .ok (.ldc 39, 2) := by decide +kernel
theorem dL_tryWear_9 : decode cL_tryWear 9 = .ok (.ireturn, 1) := by decide +kernel
set_option maxRecDepth 20000 in
theorem ggL_trySetting_X5_setting : GoodIn wsL_trySetting wsX5_setting := goodIn_ca (goodIn_r _ [7, 8, 9, 10, 6, 11, 12, 13, 14, 15, 16, 17, 18, 19, 20, 21, 22, 23, 24, 25, 26, 27, 28, 29, 30, 31, 32, 33, 34, 35, 36, 37, 38, 39, 40] (by decide +kernel) (by decide +kernel)) (goodIn_sub (fun _ h => List.mem_cons_of_mem _ (List.mem_append_right _ h)) (by decide +kernel))
set_option maxRecDepth 20000 in
theorem gL_trySetting_X5_setting : GoodIn wsL_trySetting (wsV RL 49 RX5 yX5_setting wsX5_setting) := goodIn_app (goodIn_of _ (by decide +kernel)) ggL_trySetting_X5_setting
theorem dL_trySetting_0 : decode cL_trySetting 0 = .ok (.aload_n 0, 1) := by decide +kernel
theorem dL_trySetting_1 : decode cL_trySetting 1 = .ok (.iload_n 1, 1) := by decide +kernel
theorem dL_trySetting_2 : decode cL_trySetting 2 = .ok (.invokevirtual 49, 3) := by decide +kernel
theorem dL_trySetting_5 : decode cL_trySetting 5 = .ok (.ireturn, 1) := by decide +kernel
theorem dL_trySetting_6 : decode cL_trySetting 6 = .ok (.astore_n 2, 1) := by decide +kernel
theorem dL_trySetting_7 : decode cL_trySetting 7 = .ok (.ldc 15, 2) := by decide +kernel
theorem dL_trySetting_9 : decode cL_trySetting 9 = .ok (.ireturn, 1) := by decide +kernel
set_option maxRecDepth 20000 in
theorem ggL_tryMake_X5_make : GoodIn wsL_tryMake wsX5_make := goodIn_ca (goodIn_r _ [7, 8, 9, 10, 11, 12, 13, 6, 14, 15, 16, 17, 18, 19, 20, 21, 22, 23, 24, 25, 26, 27, 28, 29, 30, 31, 32, 33, 34, 35, 36, 37, 38, 39, 40, 41, 42, 43, 44, 45, 46, 47, 48, 49, 50, 51, 52, 53, 54, 55, 56, 57, 58, 59, 60, 61, 62, 63, 64, 65, 66, 67, 68, 69, 70, 71, 72, 73, 74, 75, 76, 77, 78, 79, 80, 81, 82, 83, 84, 85, 86, 87, 88, 89, 90, 91, 92, 93, 94, 95, 96] (by decide +kernel) (by decide +kernel)) (goodIn_sub (fun _ h => List.mem_cons_of_mem _ (List.mem_append_right _ h)) (by decide +kernel))
set_option maxRecDepth 20000 in
theorem gL_tryMake_X5_make : GoodIn wsL_tryMake (wsV RL 52 RX5 yX5_make wsX5_make) := goodIn_app (goodIn_of _ (by decide +kernel)) ggL_tryMake_X5_make
theorem dL_tryMake_0 : decode cL_tryMake 0 = .ok (.aload_n 0, 1) := by decide +kernel
theorem dL_tryMake_1 : decode cL_tryMake 1 = .ok (.iload_n 1, 1) := by decide +kernel
theorem dL_tryMake_2 : decode cL_tryMake 2 = .ok (.iload_n 2, 1) := by decide +kernel
theorem dL_tryMake_3 : decode cL_tryMake 3 = .ok (.iload_n 3, 1) := by decide +kernel
theorem dL_tryMake_4 : decode cL_tryMake 4 = .ok (.invokevirtual 52, 3) := by decide +kernel
theorem dL_tryMake_7 : decode cL_tryMake 7 = .ok (.ireturn, 1) := by decide +kernel
theorem dL_tryMake_8 : decode cL_tryMake 8 = .ok (.astore 4, 2) := by decide +kernel
theorem dL_tryMake_10 : decode cL_tryMake 10 = .ok (.ldc 15, 2) := by decide +kernel
theorem dL_tryMake_12 : decode cL_tryMake 12 = .ok (.ireturn, 1) := by decide +kernel
set_option maxRecDepth 20000 in
theorem ggL_tryWrite_X5_write : GoodIn wsL_tryWrite wsX5_write := goodIn_ca (goodIn_ca (goodIn_ca (goodIn_r _ [11, 12, 13, 14, 15, 16, 17, 18, 19, 20, 21, 10, 22, 23, 24, 25, 26, 27, 28, 29, 30, 31, 32, 33, 34, 35, 36, 37, 38, 39, 40, 41, 42, 43, 44, 45, 46, 47, 48, 49, 50, 51, 52, 53, 54, 55, 56, 57, 58, 59, 60, 61, 62, 63, 64, 65, 66, 67, 68, 69, 70, 71, 72, 73, 74, 75, 76, 77, 78, 79, 80, 81, 82, 83, 84, 85, 86, 87, 88, 89, 90, 91, 92, 93, 94, 95, 96, 97, 98, 99, 100, 101, 102, 103, 104, 105, 106, 107, 108, 109, 110, 111, 112, 113, 114, 115, 116, 117, 118, 119] (by decide +kernel) (by decide +kernel)) (goodIn_sub (fun _ h => List.mem_cons_of_mem _ (List.mem_append_left _ (List.mem_append_left _ (List.mem_append_right _ h)))) (by decide +kernel))) (goodIn_sub (fun _ h => List.mem_cons_of_mem _ (List.mem_append_left _ (List.mem_append_right _ h))) (by decide +kernel))) (goodIn_sub (fun _ h => List.mem_cons_of_mem _ (List.mem_append_right _ h)) (by decide +kernel))
set_option maxRecDepth 20000 in
theorem gL_tryWrite_X5_write : GoodIn wsL_tryWrite (wsV RL 56 RX5 yX5_write wsX5_write) := goodIn_app (goodIn_of _ (by decide +kernel)) ggL_tryWrite_X5_write
theorem dL_tryWrite_0 : decode cL_tryWrite 0 = .ok (.aload_n 0, 1) := by decide +kernel
theorem dL_tryWrite_1 : decode cL_tryWrite 1 = .ok (.iload_n 1, 1) := by decide +kernel
theorem dL_tryWrite_2 : decode cL_tryWrite 2 = .ok (.iload_n 2, 1) := by decide +kernel
theorem dL_tryWrite_3 : decode cL_tryWrite 3 = .ok (.invokevirtual 56, 3) := by decide +kernel
theorem dL_tryWrite_6 : decode cL_tryWrite 6 = .ok (.ireturn, 1) := by decide +kernel
theorem dL_tryWrite_7 : decode cL_tryWrite 7 = .ok (.astore_n 3, 1) := by decide +kernel
theorem dL_tryWrite_8 : decode cL_tryWrite 8 = .ok (.ldc 39, 2) := by decide +kernel
theorem dL_tryWrite_10 : decode cL_tryWrite 10 = .ok (.ireturn, 1) := by decide +kernel
theorem dL_tryWrite_11 : decode cL_tryWrite 11 = .ok (.astore_n 3, 1) := by decide +kernel
theorem dL_tryWrite_12 : decode cL_tryWrite 12 = .ok (.ldc 15, 2) := by decide +kernel
theorem dL_tryWrite_14 : decode cL_tryWrite 14 = .ok (.ireturn, 1) := by decide +kernel
theorem dL_tryWrite_15 : decode cL_tryWrite 15 = .ok (.astore_n 3, 1) := by decide +kernel
theorem dL_tryWrite_16 : decode cL_tryWrite 16 = .ok (.ldc 26, 2) := by decide +kernel
theorem dL_tryWrite_18 : decode cL_tryWrite 18 = .ok (.ireturn, 1) := by decide +kernel
set_option maxRecDepth 20000 in
theorem ggL_tryHammer_X5_hammer : GoodIn wsL_tryHammer wsX5_hammer := goodIn_ca (goodIn_ca (goodIn_r _ [9, 10, 11, 12, 13, 14, 8, 15, 16, 17, 18, 19, 20, 21, 22, 23, 24, 25, 26, 27, 28, 29, 30, 31, 32, 33, 34, 35, 36, 37, 38, 39, 40, 41, 42, 43, 44, 45, 46, 47, 48, 49, 50, 51, 52, 53, 54, 55, 56, 57, 58, 59, 60, 61, 62, 63, 64, 65, 66, 67, 68, 69, 70, 71, 72, 73, 74, 75, 76, 77, 78, 79, 80, 81, 82, 83, 84, 85, 86, 87, 88, 89, 90, 91, 92, 93, 94, 95, 96, 97, 98, 99, 100, 101, 102, 103, 104, 105, 106, 107, 108, 109, 110, 111, 112, 113, 114, 115, 116, 117, 118, 119, 120, 121, 122, 123, 124, 125] (by decide +kernel) (by decide +kernel)) (goodIn_sub (fun _ h => List.mem_cons_of_mem _ (List.mem_append_left _ (List.mem_append_right _ h))) (by decide +kernel))) (goodIn_sub (fun _ h => List.mem_cons_of_mem _ (List.mem_append_right _ h)) (by decide +kernel))
set_option maxRecDepth 20000 in
theorem gL_tryHammer_X5_hammer : GoodIn wsL_tryHammer (wsV RL 60 RX5 yX5_hammer wsX5_hammer) := goodIn_app (goodIn_of _ (by decide +kernel)) ggL_tryHammer_X5_hammer
theorem dL_tryHammer_0 : decode cL_tryHammer 0 = .ok (.aload_n 0, 1) := by decide +kernel
theorem dL_tryHammer_1 : decode cL_tryHammer 1 = .ok (.iload_n 1, 1) := by decide +kernel
theorem dL_tryHammer_2 : decode cL_tryHammer 2 = .ok (.iload_n 2, 1) := by decide +kernel
theorem dL_tryHammer_3 : decode cL_tryHammer 3 = .ok (.invokevirtual 60, 3) := by decide +kernel
theorem dL_tryHammer_6 : decode cL_tryHammer 6 = .ok (.ireturn, 1) := by decide +kernel
theorem dL_tryHammer_7 : decode cL_tryHammer 7 = .ok (.astore_n 3, 1) := by decide +kernel
theorem dL_tryHammer_8 : decode cL_tryHammer 8 = .ok (.ldc 39, 2) := by decide +kernel
theorem dL_tryHammer_10 : decode cL_tryHammer 10 = .ok (.ireturn, 1) := by decide +kernel
theorem dL_tryHammer_11 : decode cL_tryHammer 11 = .ok (.astore_n 3, 1) := by decide +kernel
theorem dL_tryHammer_12 : decode cL_tryHammer 12 = .ok (.ldc 15, 2) := by decide +kernel
theorem dL_tryHammer_14 : decode cL_tryHammer 14 = .ok (.ireturn, 1) := by decide +kernel
set_option maxRecDepth 20000 in
theorem ggL_tryAll_X5_all : GoodIn wsL_tryAll wsX5_all := goodIn_ca (goodIn_ca (goodIn_r _ [9, 10, 11, 12, 13, 14, 15, 16, 8, 17, 18, 19, 20, 21, 22, 23, 24, 25, 26, 27, 28, 29, 30, 31, 32, 33, 34, 35, 36, 37, 38, 39, 40, 41, 42, 43, 44, 45, 46, 47, 48, 49, 50, 51, 52, 53, 54, 55, 56, 57, 58, 59, 60, 61, 62, 63, 64, 65, 66, 67, 68, 69, 70, 71, 72, 73, 74, 75, 76, 77, 78, 79, 80, 81, 82, 83, 84, 85, 86, 87, 88, 89, 90, 91, 92, 93, 94, 95, 96, 97, 98, 99, 100, 101, 102, 103, 104, 105, 106, 107, 108, 109, 110, 111, 112, 113, 114, 115, 116, 117, 118, 119, 120, 121, 122, 123, 124, 125, 126] (by decide +kernel) (by decide +kernel)) (goodIn_sub (fun _ h => List.mem_cons_of_mem _ (List.mem_append_left _ (List.mem_append_right _ h))) (by decide +kernel))) (goodIn_sub (fun _ h => List.mem_cons_of_mem _ (List.mem_append_right _ h)) (by decide +kernel))
set_option maxRecDepth 20000 in
theorem gL_tryAll_X5_all : GoodIn wsL_tryAll (wsV RL 63 RX5 yX5_all wsX5_all) := goodIn_app (goodIn_of _ (by decide +kernel)) ggL_tryAll_X5_all
theorem dL_tryAll_0 : decode cL_tryAll 0 = .ok (.aload_n 0, 1) := by decide +kernel
theorem dL_tryAll_1 : decode cL_tryAll 1 = .ok (.iload_n 1, 1) := by decide +kernel
theorem dL_tryAll_2 : decode cL_tryAll 2 = .ok (.invokevirtual 63, 3) := by decide +kernel
theorem dL_tryAll_5 : decode cL_tryAll 5 = .ok (.ireturn, 1) := by decide +kernel
theorem dL_tryAll_6 : decode cL_tryAll 6 = .ok (.astore_n 2, 1) := by decide +kernel
theorem dL_tryAll_7 : decode cL_tryAll 7 = .ok (.ldc 15, 2) := by decide +kernel
theorem dL_tryAll_9 : decode cL_tryAll 9 = .ok (.ireturn, 1) := by decide +kernel
theorem dL_tryAll_10 : decode cL_tryAll 10 = .ok (.astore_n 2, 1) := by decide +kernel
theorem dL_tryAll_11 : decode cL_tryAll 11 = .ok (.ldc 26, 2) := by decide +kernel
theorem dL_tryAll_13 : decode cL_tryAll 13 = .ok (.ireturn, 1) := by decide +kernel
set_option maxRecDepth 20000 in
theorem ggL_tryLay_X5_set : GoodIn wsL_tryLay wsX5_set := goodIn_ca (goodIn_r _ [7, 8, 9, 10, 11, 12, 13, 6, 14, 15, 16, 17, 18, 19, 20, 21, 22, 23, 24, 25, 26, 27, 28, 29, 30, 31, 32, 33, 34, 35, 36, 37, 38, 39, 40, 41, 42, 43, 44, 45, 46, 47, 48, 49, 50, 51, 52, 53, 54, 55, 56, 57, 58, 59, 60, 61, 62, 63, 64, 65, 66, 67, 68, 69, 70, 71, 72, 73, 74, 75, 76, 77, 78, 79, 80, 81, 82, 83, 84, 85, 86, 87, 88, 89] (by decide +kernel) (by decide +kernel)) (goodIn_sub (fun _ h => List.mem_cons_of_mem _ (List.mem_append_right _ h)) (by decide +kernel))
set_option maxRecDepth 20000 in
theorem gL_tryLay_X5_set : GoodIn wsL_tryLay (wsV RL 66 RX5 yX5_set wsX5_set) := goodIn_app (goodIn_of _ (by decide +kernel)) ggL_tryLay_X5_set
theorem dL_tryLay_0 : decode cL_tryLay 0 = .ok (.aload_n 0, 1) := by decide +kernel
theorem dL_tryLay_1 : decode cL_tryLay 1 = .ok (.iload_n 1, 1) := by decide +kernel
theorem dL_tryLay_2 : decode cL_tryLay 2 = .ok (.iload_n 2, 1) := by decide +kernel
theorem dL_tryLay_3 : decode cL_tryLay 3 = .ok (.invokevirtual 66, 3) := by decide +kernel
theorem dL_tryLay_6 : decode cL_tryLay 6 = .ok (.ireturn, 1) := by decide +kernel
theorem dL_tryLay_7 : decode cL_tryLay 7 = .ok (.astore_n 3, 1) := by decide +kernel
theorem dL_tryLay_8 : decode cL_tryLay 8 = .ok (.ldc 15, 2) := by decide +kernel
theorem dL_tryLay_10 : decode cL_tryLay 10 = .ok (.ireturn, 1) := by decide +kernel
set_option maxRecDepth 20000 in
theorem ggL_tryUndo_X5_undo : GoodIn wsL_tryUndo wsX5_undo := goodIn_ca (goodIn_r _ [7, 8, 9, 10, 11, 12, 13, 14, 15, 16, 17, 18, 19, 20, 21, 22, 23, 24, 25, 26, 27, 28, 29, 30, 31, 32, 33, 34, 35, 36, 37, 38, 39, 40, 41, 42, 43, 44, 45, 46, 47, 48, 49, 50, 51, 52, 53, 54, 55, 56, 57, 58, 59, 60, 61, 62, 63, 64, 65, 66, 67, 68, 69, 70] (by decide +kernel) (by decide +kernel)) (goodIn_sub (fun _ h => List.mem_cons_of_mem _ (List.mem_append_right _ h)) (by decide +kernel))
set_option maxRecDepth 20000 in
theorem gL_tryUndo_X5_undo : GoodIn wsL_tryUndo (wsV RL 69 RX5 yX5_undo wsX5_undo) := goodIn_app (goodIn_of _ (by decide +kernel)) ggL_tryUndo_X5_undo
theorem dL_tryUndo_0 : decode cL_tryUndo 0 = .ok (.aload_n 0, 1) := by decide +kernel
theorem dL_tryUndo_1 : decode cL_tryUndo 1 = .ok (.invokevirtual 69, 3) := by decide +kernel
theorem dL_tryUndo_4 : decode cL_tryUndo 4 = .ok (.ireturn, 1) := by decide +kernel
theorem dL_tryUndo_5 : decode cL_tryUndo 5 = .ok (.astore_n 1, 1) := by decide +kernel
theorem dL_tryUndo_6 : decode cL_tryUndo 6 = .ok (.ldc 26, 2) := by decide +kernel
theorem dL_tryUndo_8 : decode cL_tryUndo 8 = .ok (.ireturn, 1) := by decide +kernel
set_option maxRecDepth 20000 in
theorem ggL_tryLife_X5_life : GoodIn wsL_tryLife wsX5_life := goodIn_ca (goodIn_r _ [7, 8, 9, 10, 11, 12, 6, 13, 14, 15, 16, 17, 18, 19, 20, 21, 22, 23, 24, 25, 26, 27, 28, 29, 30, 31, 32, 33, 34, 35, 36, 37, 38, 39, 40, 41, 42, 43, 44, 45, 46, 47, 48, 49, 50, 51, 52, 53, 54, 55, 56, 57, 58, 59, 60, 61, 62, 63, 64, 65, 66, 67, 68, 69, 70, 71, 72, 73, 74, 75, 76, 77, 78, 79, 80, 81, 82, 83, 84, 85, 86, 87, 88, 89, 90, 91, 92] (by decide +kernel) (by decide +kernel)) (goodIn_sub (fun _ h => List.mem_cons_of_mem _ (List.mem_append_right _ h)) (by decide +kernel))
set_option maxRecDepth 20000 in
theorem gL_tryLife_X5_life : GoodIn wsL_tryLife (wsV RL 72 RX5 yX5_life wsX5_life) := goodIn_app (goodIn_of _ (by decide +kernel)) ggL_tryLife_X5_life
theorem dL_tryLife_0 : decode cL_tryLife 0 = .ok (.aload_n 0, 1) := by decide +kernel
theorem dL_tryLife_1 : decode cL_tryLife 1 = .ok (.iload_n 1, 1) := by decide +kernel
theorem dL_tryLife_2 : decode cL_tryLife 2 = .ok (.invokevirtual 72, 3) := by decide +kernel
theorem dL_tryLife_5 : decode cL_tryLife 5 = .ok (.ireturn, 1) := by decide +kernel
theorem dL_tryLife_6 : decode cL_tryLife 6 = .ok (.astore_n 2, 1) := by decide +kernel
theorem dL_tryLife_7 : decode cL_tryLife 7 = .ok (.ldc 39, 2) := by decide +kernel
theorem dL_tryLife_9 : decode cL_tryLife 9 = .ok (.ireturn, 1) := by decide +kernel
set_option maxRecDepth 20000 in
theorem ggL_tryLong_X5_lifeOfAll : GoodIn wsL_tryLong wsX5_lifeOfAll := goodIn_ca (goodIn_r _ [7, 8, 9, 10, 11, 12, 6, 13, 14, 15, 16, 17, 18, 19, 20, 21, 22, 23, 24, 25, 26, 27, 28, 29, 30, 31, 32, 33, 34, 35, 36, 37, 38, 39, 40, 41, 42, 43, 44, 45, 46, 47, 48, 49, 50, 51, 52, 53, 54, 55, 56, 57, 58, 59, 60, 61, 62, 63, 64, 65, 66, 67, 68, 69, 70, 71, 72, 73, 74, 75, 76, 77, 78, 79, 80, 81, 82, 83, 84, 85, 86, 87, 88, 89, 90, 91, 92, 93, 94, 95] (by decide +kernel) (by decide +kernel)) (goodIn_sub (fun _ h => List.mem_cons_of_mem _ (List.mem_append_right _ h)) (by decide +kernel))
set_option maxRecDepth 20000 in
theorem gL_tryLong_X5_lifeOfAll : GoodIn wsL_tryLong (wsV RL 75 RX5 yX5_lifeOfAll wsX5_lifeOfAll) := goodIn_app (goodIn_of _ (by decide +kernel)) ggL_tryLong_X5_lifeOfAll
theorem dL_tryLong_0 : decode cL_tryLong 0 = .ok (.aload_n 0, 1) := by decide +kernel
theorem dL_tryLong_1 : decode cL_tryLong 1 = .ok (.invokevirtual 75, 3) := by decide +kernel
theorem dL_tryLong_4 : decode cL_tryLong 4 = .ok (.ireturn, 1) := by decide +kernel
theorem dL_tryLong_5 : decode cL_tryLong 5 = .ok (.astore_n 1, 1) := by decide +kernel
theorem dL_tryLong_6 : decode cL_tryLong 6 = .ok (.ldc 26, 2) := by decide +kernel
theorem dL_tryLong_8 : decode cL_tryLong 8 = .ok (.ireturn, 1) := by decide +kernel
set_option maxRecDepth 20000 in
theorem ggL_tryEvery_X5_ifEvery : GoodIn wsL_tryEvery wsX5_ifEvery := goodIn_ca (goodIn_ca (goodIn_r _ [9, 10, 11, 12, 13, 14, 8, 15, 16, 17, 18, 19, 20, 21, 22, 23, 24, 25, 26, 27, 28, 29, 30, 31, 32, 33, 34, 35, 36, 37, 38, 39, 40, 41, 42, 43, 44, 45, 46, 47, 48, 49, 50, 51, 52, 53, 54, 55, 56, 57, 58, 59, 60, 61, 62, 63, 64, 65, 66, 67, 68, 69, 70, 71, 72, 73, 74, 75, 76, 77, 78, 79, 80, 81, 82, 83, 84, 85, 86, 87, 88, 89, 90, 91, 92, 93, 94, 95, 96, 97, 98, 99, 100, 101, 102, 103, 104, 105, 106, 107, 108, 109, 110, 111, 112, 113, 114, 115] (by decide +kernel) (by decide +kernel)) (goodIn_sub (fun _ h => List.mem_cons_of_mem _ (List.mem_append_left _ (List.mem_append_right _ h))) (by decide +kernel))) (goodIn_sub (fun _ h => List.mem_cons_of_mem _ (List.mem_append_right _ h)) (by decide +kernel))
set_option maxRecDepth 20000 in
theorem gL_tryEvery_X5_ifEvery : GoodIn wsL_tryEvery (wsV RL 78 RX5 yX5_ifEvery wsX5_ifEvery) := goodIn_app (goodIn_of _ (by decide +kernel)) ggL_tryEvery_X5_ifEvery
theorem dL_tryEvery_0 : decode cL_tryEvery 0 = .ok (.aload_n 0, 1) := by decide +kernel
theorem dL_tryEvery_1 : decode cL_tryEvery 1 = .ok (.iload_n 1, 1) := by decide +kernel
theorem dL_tryEvery_2 : decode cL_tryEvery 2 = .ok (.iload_n 2, 1) := by decide +kernel
theorem dL_tryEvery_3 : decode cL_tryEvery 3 = .ok (.iload_n 3, 1) := by decide +kernel
theorem dL_tryEvery_4 : decode cL_tryEvery 4 = .ok (.invokevirtual 78, 3) := by decide +kernel
theorem dL_tryEvery_7 : decode cL_tryEvery 7 = .ok (.ireturn, 1) := by decide +kernel
theorem dL_tryEvery_8 : decode cL_tryEvery 8 = .ok (.astore 4, 2) := by decide +kernel
theorem dL_tryEvery_10 : decode cL_tryEvery 10 = .ok (.ldc 39, 2) := by decide +kernel
theorem dL_tryEvery_12 : decode cL_tryEvery 12 = .ok (.ireturn, 1) := by decide +kernel
theorem dL_tryEvery_13 : decode cL_tryEvery 13 = .ok (.astore 4, 2) := by decide +kernel
theorem dL_tryEvery_15 : decode cL_tryEvery 15 = .ok (.ldc 15, 2) := by decide +kernel
theorem dL_tryEvery_17 : decode cL_tryEvery 17 = .ok (.ireturn, 1) := by decide +kernel
set_option maxRecDepth 20000 in
theorem ggL_tryBest_X5_bestEvery : GoodIn wsL_tryBest wsX5_bestEvery := goodIn_ca (goodIn_ca (goodIn_r _ [9, 10, 11, 12, 8, 13, 14, 15, 16, 17, 18, 19, 20, 21, 22, 23, 24, 25, 26, 27, 28, 29, 30, 31, 32, 33, 34, 35, 36, 37, 38, 39, 40, 41, 42, 43, 44, 45, 46, 47, 48, 49, 50, 51, 52, 53, 54, 55, 56, 57, 58, 59, 60, 61, 62, 63, 64, 65, 66, 67, 68, 69, 70, 71, 72, 73, 74, 75, 76, 77, 78, 79, 80, 81, 82, 83, 84, 85, 86, 87, 88, 89, 90, 91, 92, 93, 94, 95, 96, 97, 98, 99, 100, 101, 102, 103, 104, 105, 106, 107, 108, 109, 110, 111, 112, 113, 114, 115] (by decide +kernel) (by decide +kernel)) (goodIn_sub (fun _ h => List.mem_cons_of_mem _ (List.mem_append_left _ (List.mem_append_right _ h))) (by decide +kernel))) (goodIn_sub (fun _ h => List.mem_cons_of_mem _ (List.mem_append_right _ h)) (by decide +kernel))
set_option maxRecDepth 20000 in
theorem gL_tryBest_X5_bestEvery : GoodIn wsL_tryBest (wsV RL 81 RX5 yX5_bestEvery wsX5_bestEvery) := goodIn_app (goodIn_of _ (by decide +kernel)) ggL_tryBest_X5_bestEvery
theorem dL_tryBest_0 : decode cL_tryBest 0 = .ok (.aload_n 0, 1) := by decide +kernel
theorem dL_tryBest_1 : decode cL_tryBest 1 = .ok (.iload_n 1, 1) := by decide +kernel
theorem dL_tryBest_2 : decode cL_tryBest 2 = .ok (.iload_n 2, 1) := by decide +kernel
theorem dL_tryBest_3 : decode cL_tryBest 3 = .ok (.invokevirtual 81, 3) := by decide +kernel
theorem dL_tryBest_6 : decode cL_tryBest 6 = .ok (.ireturn, 1) := by decide +kernel
theorem dL_tryBest_7 : decode cL_tryBest 7 = .ok (.astore_n 3, 1) := by decide +kernel
theorem dL_tryBest_8 : decode cL_tryBest 8 = .ok (.ldc 39, 2) := by decide +kernel
theorem dL_tryBest_10 : decode cL_tryBest 10 = .ok (.ireturn, 1) := by decide +kernel
theorem dL_tryBest_11 : decode cL_tryBest 11 = .ok (.astore_n 3, 1) := by decide +kernel
theorem dL_tryBest_12 : decode cL_tryBest 12 = .ok (.ldc 15, 2) := by decide +kernel
theorem dL_tryBest_14 : decode cL_tryBest 14 = .ok (.ireturn, 1) := by decide +kernel
set_option maxRecDepth 20000 in
theorem ggL_tryMoves_X5_movesTo : GoodIn wsL_tryMoves wsX5_movesTo := goodIn_ca (goodIn_r _ [7, 8, 9, 10, 11, 6, 12, 13, 14, 15, 16, 17, 18, 19, 20, 21, 22, 23, 24, 25, 26, 27, 28, 29, 30, 31, 32, 33, 34, 35, 36, 37, 38, 39, 40, 41, 42, 43, 44, 45, 46, 47, 48, 49, 50, 51] (by decide +kernel) (by decide +kernel)) (goodIn_sub (fun _ h => List.mem_cons_of_mem _ (List.mem_append_right _ h)) (by decide +kernel))
set_option maxRecDepth 20000 in
theorem gL_tryMoves_X5_movesTo : GoodIn wsL_tryMoves (wsV RL 84 RX5 yX5_movesTo wsX5_movesTo) := goodIn_app (goodIn_of _ (by decide +kernel)) ggL_tryMoves_X5_movesTo
theorem dL_tryMoves_0 : decode cL_tryMoves 0 = .ok (.aload_n 0, 1) := by decide +kernel
theorem dL_tryMoves_1 : decode cL_tryMoves 1 = .ok (.iload_n 1, 1) := by decide +kernel
theorem dL_tryMoves_2 : decode cL_tryMoves 2 = .ok (.invokevirtual 84, 3) := by decide +kernel
theorem dL_tryMoves_5 : decode cL_tryMoves 5 = .ok (.ireturn, 1) := by decide +kernel
theorem dL_tryMoves_6 : decode cL_tryMoves 6 = .ok (.astore_n 2, 1) := by decide +kernel
theorem dL_tryMoves_7 : decode cL_tryMoves 7 = .ok (.ldc 39, 2) := by decide +kernel
theorem dL_tryMoves_9 : decode cL_tryMoves 9 = .ok (.ireturn, 1) := by decide +kernel
set_option maxRecDepth 20000 in
theorem ggL_tryBehind_X5_placeBehind : GoodIn wsL_tryBehind wsX5_placeBehind := goodIn_ca (goodIn_ca (goodIn_r _ [9, 10, 11, 12, 13, 14, 15, 8, 16, 17, 18, 19, 20, 21, 22, 23, 24, 25, 26, 27, 28, 29, 30, 31, 32, 33, 34, 35, 36, 37, 38, 39, 40, 41, 42, 43, 44, 45, 46, 47, 48, 49, 50, 51, 52, 53, 54, 55, 56] (by decide +kernel) (by decide +kernel)) (goodIn_sub (fun _ h => List.mem_cons_of_mem _ (List.mem_append_left _ (List.mem_append_right _ h))) (by decide +kernel))) (goodIn_sub (fun _ h => List.mem_cons_of_mem _ (List.mem_append_right _ h)) (by decide +kernel))
set_option maxRecDepth 20000 in
theorem gL_tryBehind_X5_placeBehind : GoodIn wsL_tryBehind (wsV RL 87 RX5 yX5_placeBehind wsX5_placeBehind) := goodIn_app (goodIn_of _ (by decide +kernel)) ggL_tryBehind_X5_placeBehind
theorem dL_tryBehind_0 : decode cL_tryBehind 0 = .ok (.aload_n 0, 1) := by decide +kernel
theorem dL_tryBehind_1 : decode cL_tryBehind 1 = .ok (.iload_n 1, 1) := by decide +kernel
theorem dL_tryBehind_2 : decode cL_tryBehind 2 = .ok (.iload_n 2, 1) := by decide +kernel
theorem dL_tryBehind_3 : decode cL_tryBehind 3 = .ok (.invokevirtual 87, 3) := by decide +kernel
theorem dL_tryBehind_6 : decode cL_tryBehind 6 = .ok (.ireturn, 1) := by decide +kernel
theorem dL_tryBehind_7 : decode cL_tryBehind 7 = .ok (.astore_n 3, 1) := by decide +kernel
theorem dL_tryBehind_8 : decode cL_tryBehind 8 = .ok (.ldc 39, 2) := by decide +kernel
theorem dL_tryBehind_10 : decode cL_tryBehind 10 = .ok (.ireturn, 1) := by decide +kernel
theorem dL_tryBehind_11 : decode cL_tryBehind 11 = .ok (.astore_n 3, 1) := by decide +kernel
theorem dL_tryBehind_12 : decode cL_tryBehind 12 = .ok (.ldc 15, 2) := by decide +kernel
theorem dL_tryBehind_14 : decode cL_tryBehind 14 = .ok (.ireturn, 1) := by decide +kernel
set_option maxRecDepth 20000 in
theorem ggL_tryKeep_X5_save : GoodIn wsL_tryKeep wsX5_save := goodIn_ca (goodIn_r _ [7, 8, 9, 10, 11, 12, 6, 13, 14, 15, 16, 17, 18, 19, 20, 21, 22, 23, 24, 25, 26, 27, 28, 29, 30, 31, 32, 33, 34, 35, 36, 37, 38, 39, 40, 41, 42, 43, 44, 45, 46, 47, 48, 49, 50, 51, 52, 53, 54, 55, 56, 57, 58, 59, 60, 61, 62, 63, 64, 65, 66, 67, 68, 69, 70, 71, 72, 73, 74, 75, 76, 77, 78, 79, 80] (by decide +kernel) (by decide +kernel)) (goodIn_sub (fun _ h => List.mem_cons_of_mem _ (List.mem_append_right _ h)) (by decide +kernel))
set_option maxRecDepth 20000 in
theorem gL_tryKeep_X5_save : GoodIn wsL_tryKeep (wsV RL 90 RX5 yX5_save wsX5_save) := goodIn_app (goodIn_of _ (by decide +kernel)) ggL_tryKeep_X5_save
theorem dL_tryKeep_0 : decode cL_tryKeep 0 = .ok (.aload_n 0, 1) := by decide +kernel
theorem dL_tryKeep_1 : decode cL_tryKeep 1 = .ok (.iload_n 1, 1) := by decide +kernel
theorem dL_tryKeep_2 : decode cL_tryKeep 2 = .ok (.invokevirtual 90, 3) := by decide +kernel
theorem dL_tryKeep_5 : decode cL_tryKeep 5 = .ok (.ireturn, 1) := by decide +kernel
theorem dL_tryKeep_6 : decode cL_tryKeep 6 = .ok (.astore_n 2, 1) := by decide +kernel
theorem dL_tryKeep_7 : decode cL_tryKeep 7 = .ok (.ldc 39, 2) := by decide +kernel
theorem dL_tryKeep_9 : decode cL_tryKeep 9 = .ok (.ireturn, 1) := by decide +kernel
set_option maxRecDepth 20000 in
theorem ggL_tryBack_X5_restore : GoodIn wsL_tryBack wsX5_restore := goodIn_ca (goodIn_ca (goodIn_r _ [9, 10, 11, 12, 13, 14, 15, 16, 17, 8, 18, 19, 20, 21, 22, 23, 24, 25, 26, 27, 28, 29, 30, 31, 32, 33, 34, 35, 36, 37, 38, 39, 40, 41, 42, 43, 44, 45, 46, 47, 48, 49, 50, 51, 52, 53, 54, 55, 56, 57, 58, 59, 60, 61, 62, 63, 64, 65, 66, 67, 68, 69, 70, 71, 72, 73, 74, 75, 76, 77, 78, 79, 80, 81, 82, 83, 84, 85, 86] (by decide +kernel) (by decide +kernel)) (goodIn_sub (fun _ h => List.mem_cons_of_mem _ (List.mem_append_left _ (List.mem_append_right _ h))) (by decide +kernel))) (goodIn_sub (fun _ h => List.mem_cons_of_mem _ (List.mem_append_right _ h)) (by decide +kernel))
set_option maxRecDepth 20000 in
theorem gL_tryBack_X5_restore : GoodIn wsL_tryBack (wsV RL 93 RX5 yX5_restore wsX5_restore) := goodIn_app (goodIn_of _ (by decide +kernel)) ggL_tryBack_X5_restore
theorem dL_tryBack_0 : decode cL_tryBack 0 = .ok (.aload_n 0, 1) := by decide +kernel
theorem dL_tryBack_1 : decode cL_tryBack 1 = .ok (.iload_n 1, 1) := by decide +kernel
theorem dL_tryBack_2 : decode cL_tryBack 2 = .ok (.invokevirtual 93, 3) := by decide +kernel
theorem dL_tryBack_5 : decode cL_tryBack 5 = .ok (.ireturn, 1) := by decide +kernel
theorem dL_tryBack_6 : decode cL_tryBack 6 = .ok (.astore_n 2, 1) := by decide +kernel
theorem dL_tryBack_7 : decode cL_tryBack 7 = .ok (.ldc 39, 2) := by decide +kernel
theorem dL_tryBack_9 : decode cL_tryBack 9 = .ok (.ireturn, 1) := by decide +kernel
theorem dL_tryBack_10 : decode cL_tryBack 10 = .ok (.astore_n 2, 1) := by decide +kernel
theorem dL_tryBack_11 : decode cL_tryBack 11 = .ok (.ldc 26, 2) := by decide +kernel
theorem dL_tryBack_13 : decode cL_tryBack 13 = .ok (.ireturn, 1) := by decide +kernel
set_option maxRecDepth 20000 in
theorem ggL_call_L_tryAppend : GoodIn wsL_call wsL_tryAppend := goodIn_ca (goodIn_ca (goodIn_r _ [4, 5, 6, 7, 8, 9, 10, 11, 12, 13, 14, 15, 16, 17, 18, 19, 20, 21, 22, 23, 24, 25, 26, 27, 28, 29, 30, 458, 459, 460, 461, 462, 463, 464] (by decide +kernel) (by decide +kernel)) (goodIn_sub (fun _ h => List.mem_cons_of_mem _ (List.mem_append_left _ (List.mem_append_left _ (List.mem_append_right _ h)))) (by decide +kernel))) (goodIn_sub (fun _ h => List.mem_cons_of_mem _ (List.mem_append_left _ (List.mem_append_right _ h))) (by decide +kernel))
set_option maxRecDepth 20000 in
theorem gL_call_L_tryAppend : GoodIn wsL_call (va_wsS RL 96 yL_tryAppend wsL_tryAppend) := goodIn_app (goodIn_of _ (by decide +kernel)) ggL_call_L_tryAppend
set_option maxRecDepth 20000 in
theorem ggL_call_L_tryLoad : GoodIn wsL_call wsL_tryLoad := goodIn_ca (goodIn_r _ [33, 6, 8, 34, 35, 36, 12, 37, 16, 17, 18, 38, 39, 40, 41, 42, 43, 22, 44, 24, 45, 46, 47, 48, 49, 50, 51, 52, 29, 53, 54, 55, 56, 57, 58, 59, 60, 61, 62, 63, 64, 65, 66, 67, 68, 69, 70, 71, 72, 73, 74, 75, 76, 77, 78, 79, 80, 81, 82, 83, 84, 85, 86, 87, 88, 89, 90, 91, 92, 93, 94, 95, 96, 97, 98, 99, 100, 101, 102, 103, 104, 105, 106, 107, 108, 109, 110, 111, 112, 113, 114, 115, 116, 117, 118, 119, 120, 121, 122, 123, 124, 125, 126, 127, 128, 129, 130, 131, 132, 133, 134, 135, 136, 137, 138, 139, 140, 141, 142, 143, 144, 145, 146, 147, 148, 149, 150, 151, 152, 153, 154, 155, 156, 157, 158, 159, 160, 161, 162, 163, 164, 165, 166, 167, 168, 169, 170, 171, 172, 458, 459, 460, 461, 462, 463, 464, 465, 466, 467, 468, 469, 470, 471, 472, 473, 474, 475, 476, 477, 478, 479, 480, 481, 482, 483, 484] (by decide +kernel) (by decide +kernel)) (goodIn_sub (fun _ h => List.mem_cons_of_mem _ (List.mem_append_left _ (List.mem_append_right _ h))) (by decide +kernel))
set_option maxRecDepth 20000 in
theorem gL_call_L_tryLoad : GoodIn wsL_call (va_wsS RL 102 yL_tryLoad wsL_tryLoad) := goodIn_app (goodIn_of _ (by decide +kernel)) ggL_call_L_tryLoad
set_option maxRecDepth 20000 in
theorem ggL_call_L_tryAbout : GoodIn wsL_call wsL_tryAbout := goodIn_ca (goodIn_r _ [175, 5, 7, 176, 177, 178, 12, 179, 14, 15, 40, 180, 181, 182, 80, 183, 88, 90, 91, 92, 93, 94, 95, 98, 96, 97, 184, 185, 186, 187, 100, 188, 189, 190, 191, 192, 193, 194, 195, 196, 197, 198, 458, 459, 460, 461, 462, 470, 471, 472, 473, 474, 475, 476, 477, 478, 479, 480, 481, 482, 483, 484] (by decide +kernel) (by decide +kernel)) (goodIn_sub (fun _ h => List.mem_cons_of_mem _ (List.mem_append_left _ (List.mem_append_left _ (List.mem_append_right _ h)))) (by decide +kernel))
set_option maxRecDepth 20000 in
theorem gL_call_L_tryAbout : GoodIn wsL_call (va_wsS RL 106 yL_tryAbout wsL_tryAbout) := goodIn_app (goodIn_of _ (by decide +kernel)) ggL_call_L_tryAbout
set_option maxRecDepth 20000 in
theorem ggL_call_L_tryRead : GoodIn wsL_call wsL_tryRead := goodIn_ca (goodIn_r _ [201, 202, 203, 204, 205, 206, 12, 207, 40, 208, 209, 210, 211, 212, 213, 214, 120, 121, 80, 122, 88, 215, 156, 157, 158, 99, 119, 458, 459, 460, 461, 462, 470, 471, 472, 473, 474, 475, 476, 477, 478, 479, 480, 481, 482, 483, 484] (by decide +kernel) (by decide +kernel)) (goodIn_sub (fun _ h => List.mem_cons_of_mem _ (List.mem_append_right _ h)) (by decide +kernel))
set_option maxRecDepth 20000 in
theorem gL_call_L_tryRead : GoodIn wsL_call (va_wsS RL 109 yL_tryRead wsL_tryRead) := goodIn_app (goodIn_of _ (by decide +kernel)) ggL_call_L_tryRead
set_option maxRecDepth 20000 in
theorem ggL_call_L_tryPlace : GoodIn wsL_call wsL_tryPlace := goodIn_ca (goodIn_r _ [218, 202, 203, 219, 220, 221, 12, 222, 40, 208, 209, 210, 211, 212, 213, 214, 120, 121, 80, 122, 88, 223, 130, 131, 132, 90, 91, 133, 134, 135, 136, 89, 458, 459, 460, 461, 462, 470, 471, 472, 473, 474, 475, 476, 477, 478, 479, 480, 481, 482, 483, 484] (by decide +kernel) (by decide +kernel)) (goodIn_sub (fun _ h => List.mem_cons_of_mem _ (List.mem_append_right _ h)) (by decide +kernel))
set_option maxRecDepth 20000 in
theorem gL_call_L_tryPlace : GoodIn wsL_call (va_wsS RL 112 yL_tryPlace wsL_tryPlace) := goodIn_app (goodIn_of _ (by decide +kernel)) ggL_call_L_tryPlace
set_option maxRecDepth 20000 in
theorem ggL_call_L_tryLine : GoodIn wsL_call wsL_tryLine := goodIn_ca (goodIn_r _ [226, 202, 203, 227, 228, 229, 12, 230, 40, 231, 232, 233, 234, 212, 213, 235, 236, 237, 80, 238, 88, 239, 240, 241, 242, 91, 90, 133, 134, 135, 136, 89, 458, 459, 460, 461, 462, 470, 471, 472, 473, 474, 475, 476, 477, 478, 479, 480, 481, 482, 483, 484] (by decide +kernel) (by decide +kernel)) (goodIn_sub (fun _ h => List.mem_cons_of_mem _ (List.mem_append_right _ h)) (by decide +kernel))
set_option maxRecDepth 20000 in
theorem gL_call_L_tryLine : GoodIn wsL_call (va_wsS RL 115 yL_tryLine wsL_tryLine) := goodIn_app (goodIn_of _ (by decide +kernel)) ggL_call_L_tryLine
set_option maxRecDepth 20000 in
theorem ggL_call_L_tryWear : GoodIn wsL_call wsL_tryWear := goodIn_ca (goodIn_r _ [245, 202, 203, 246, 247, 248, 12, 249, 40, 231, 232, 233, 234, 212, 213, 235, 236, 237, 80, 238, 88, 250, 251, 252, 253, 100, 254, 458, 459, 460, 461, 462, 470, 471, 472, 473, 474, 475, 476, 477, 478, 479, 480, 481, 482, 483, 484] (by decide +kernel) (by decide +kernel)) (goodIn_sub (fun _ h => List.mem_cons_of_mem _ (List.mem_append_right _ h)) (by decide +kernel))
set_option maxRecDepth 20000 in
theorem gL_call_L_tryWear : GoodIn wsL_call (va_wsS RL 118 yL_tryWear wsL_tryWear) := goodIn_app (goodIn_of _ (by decide +kernel)) ggL_call_L_tryWear
set_option maxRecDepth 20000 in
theorem ggL_call_L_trySetting : GoodIn wsL_call wsL_trySetting := goodIn_ca (goodIn_r _ [257, 5, 7, 258, 259, 260, 12, 261, 40, 262, 263, 264, 14, 15, 265, 266, 267, 80, 268, 82, 83, 458, 459, 460, 461, 462, 470, 471, 472, 473, 474, 475, 476, 477, 478, 479, 480, 481, 482, 483, 484] (by decide +kernel) (by decide +kernel)) (goodIn_sub (fun _ h => List.mem_cons_of_mem _ (List.mem_append_left _ (List.mem_append_left _ (List.mem_append_right _ h)))) (by decide +kernel))
set_option maxRecDepth 20000 in
theorem gL_call_L_trySetting : GoodIn wsL_call (va_wsS RL 121 yL_trySetting wsL_trySetting) := goodIn_app (goodIn_of _ (by decide +kernel)) ggL_call_L_trySetting
set_option maxRecDepth 20000 in
theorem ggL_call_L_tryMake : GoodIn wsL_call wsL_tryMake := goodIn_ca (goodIn_r _ [271, 5, 7, 272, 273, 274, 12, 275, 14, 15, 38, 40, 276, 109, 110, 111, 112, 113, 277, 278, 279, 68, 280, 281, 282, 283, 284, 80, 70, 285, 197, 190, 198, 286, 287, 288, 289, 290, 82, 83, 291, 99, 100, 292, 293, 294, 295, 88, 89, 90, 91, 92, 93, 94, 95, 96, 97, 98, 296, 297, 298, 299, 300, 85, 86, 87, 223, 130, 131, 132, 133, 134, 135, 136, 458, 459, 460, 461, 462, 465, 466, 467, 470, 471, 472, 473, 474, 475, 476, 477, 478, 479, 480, 481, 482, 483, 484] (by decide +kernel) (by decide +kernel)) (goodIn_sub (fun _ h => List.mem_cons_of_mem _ (List.mem_append_left _ (List.mem_append_left _ (List.mem_append_right _ h)))) (by decide +kernel))
set_option maxRecDepth 20000 in
theorem gL_call_L_tryMake : GoodIn wsL_call (va_wsS RL 124 yL_tryMake wsL_tryMake) := goodIn_app (goodIn_of _ (by decide +kernel)) ggL_call_L_tryMake
set_option maxRecDepth 20000 in
theorem ggL_call_L_tryWrite : GoodIn wsL_call wsL_tryWrite := goodIn_ca (goodIn_ca (goodIn_ca (goodIn_r _ [303, 202, 5, 6, 203, 7, 8, 304, 305, 306, 12, 307, 14, 15, 16, 17, 40, 308, 38, 208, 209, 210, 211, 212, 213, 214, 120, 121, 80, 122, 88, 309, 123, 124, 277, 278, 279, 68, 280, 281, 282, 283, 284, 70, 285, 197, 190, 198, 286, 287, 288, 289, 290, 82, 83, 291, 99, 100, 292, 293, 294, 295, 89, 90, 91, 92, 93, 94, 95, 96, 97, 98, 296, 297, 298, 299, 310, 126, 127, 128, 119, 129, 130, 131, 132, 133, 134, 135, 136, 137, 138, 139, 140, 141, 142, 143, 144, 458, 459, 460, 461, 462, 470, 471, 472, 473, 474, 475, 476, 477, 478, 479, 480, 481, 482, 483, 484, 465, 466, 467] (by decide +kernel) (by decide +kernel)) (goodIn_sub (fun _ h => List.mem_cons_of_mem _ (List.mem_append_left _ (List.mem_append_left _ (List.mem_append_right _ h)))) (by decide +kernel))) (goodIn_sub (fun _ h => List.mem_cons_of_mem _ (List.mem_append_left _ (List.mem_append_right _ h))) (by decide +kernel))) (goodIn_sub (fun _ h => List.mem_cons_of_mem _ (List.mem_append_right _ h)) (by decide +kernel))
set_option maxRecDepth 20000 in
theorem gL_call_L_tryWrite : GoodIn wsL_call (va_wsS RL 128 yL_tryWrite wsL_tryWrite) := goodIn_app (goodIn_of _ (by decide +kernel)) ggL_call_L_tryWrite
set_option maxRecDepth 20000 in
theorem ggL_call_L_tryHammer : GoodIn wsL_call wsL_tryHammer := goodIn_ca (goodIn_ca (goodIn_r _ [313, 202, 5, 203, 7, 314, 315, 316, 12, 317, 38, 40, 208, 209, 210, 211, 212, 213, 214, 120, 121, 80, 122, 88, 318, 319, 320, 14, 15, 321, 149, 150, 277, 278, 279, 68, 280, 281, 282, 283, 284, 70, 285, 197, 190, 198, 286, 287, 288, 289, 290, 82, 83, 291, 99, 100, 292, 293, 294, 295, 89, 90, 91, 92, 93, 94, 95, 96, 97, 98, 296, 297, 298, 299, 322, 152, 153, 154, 155, 156, 157, 158, 119, 125, 126, 127, 128, 129, 130, 131, 132, 133, 134, 135, 136, 137, 138, 139, 140, 141, 142, 143, 144, 458, 459, 460, 461, 462, 470, 471, 472, 473, 474, 475, 476, 477, 478, 479, 480, 481, 482, 483, 484, 465, 466, 467] (by decide +kernel) (by decide +kernel)) (goodIn_sub (fun _ h => List.mem_cons_of_mem _ (List.mem_append_right _ h)) (by decide +kernel))) (goodIn_sub (fun _ h => List.mem_cons_of_mem _ (List.mem_append_left _ (List.mem_append_left _ (List.mem_append_right _ h)))) (by decide +kernel))
set_option maxRecDepth 20000 in
theorem gL_call_L_tryHammer : GoodIn wsL_call (va_wsS RL 132 yL_tryHammer wsL_tryHammer) := goodIn_app (goodIn_of _ (by decide +kernel)) ggL_call_L_tryHammer
set_option maxRecDepth 20000 in
theorem ggL_call_L_tryAll : GoodIn wsL_call wsL_tryAll := goodIn_ca (goodIn_ca (goodIn_r _ [325, 5, 6, 7, 8, 326, 327, 328, 12, 329, 14, 15, 38, 40, 330, 331, 163, 164, 332, 333, 334, 335, 16, 17, 336, 166, 167, 80, 168, 88, 277, 278, 279, 68, 280, 281, 282, 283, 284, 70, 285, 197, 190, 198, 286, 287, 288, 289, 290, 82, 83, 291, 99, 100, 292, 293, 294, 295, 89, 90, 91, 92, 93, 94, 95, 96, 97, 98, 296, 297, 298, 299, 337, 170, 171, 172, 155, 156, 157, 158, 119, 120, 121, 122, 125, 126, 127, 128, 129, 130, 131, 132, 133, 134, 135, 136, 137, 138, 139, 140, 141, 142, 143, 144, 458, 459, 460, 461, 462, 470, 471, 472, 473, 474, 475, 476, 477, 478, 479, 480, 481, 482, 483, 484, 465, 466, 467] (by decide +kernel) (by decide +kernel)) (goodIn_sub (fun _ h => List.mem_cons_of_mem _ (List.mem_append_left _ (List.mem_append_left _ (List.mem_append_right _ h)))) (by decide +kernel))) (goodIn_sub (fun _ h => List.mem_cons_of_mem _ (List.mem_append_left _ (List.mem_append_right _ h))) (by decide +kernel))
set_option maxRecDepth 20000 in
theorem gL_call_L_tryAll : GoodIn wsL_call (va_wsS RL 135 yL_tryAll wsL_tryAll) := goodIn_app (goodIn_of _ (by decide +kernel)) ggL_call_L_tryAll
set_option maxRecDepth 20000 in
theorem ggL_call_L_tryLay : GoodIn wsL_call wsL_tryLay := goodIn_ca (goodIn_r _ [340, 5, 7, 341, 342, 343, 12, 344, 14, 15, 38, 40, 345, 346, 347, 277, 278, 279, 68, 280, 281, 282, 283, 284, 80, 70, 285, 197, 190, 198, 286, 287, 288, 289, 290, 82, 83, 291, 99, 100, 292, 293, 294, 295, 88, 89, 90, 91, 92, 93, 94, 95, 96, 97, 98, 296, 297, 298, 299, 265, 266, 267, 268, 348, 349, 350, 351, 458, 459, 460, 461, 462, 465, 466, 467, 470, 471, 472, 473, 474, 475, 476, 477, 478, 479, 480, 481, 482, 483, 484] (by decide +kernel) (by decide +kernel)) (goodIn_sub (fun _ h => List.mem_cons_of_mem _ (List.mem_append_left _ (List.mem_append_left _ (List.mem_append_right _ h)))) (by decide +kernel))
set_option maxRecDepth 20000 in
theorem gL_call_L_tryLay : GoodIn wsL_call (va_wsS RL 138 yL_tryLay wsL_tryLay) := goodIn_app (goodIn_of _ (by decide +kernel)) ggL_call_L_tryLay
set_option maxRecDepth 20000 in
theorem ggL_call_L_tryUndo : GoodIn wsL_call wsL_tryUndo := goodIn_ca (goodIn_r _ [354, 6, 8, 355, 356, 357, 12, 358, 16, 17, 38, 40, 359, 360, 361, 68, 362, 282, 70, 281, 292, 293, 294, 80, 295, 88, 89, 90, 91, 92, 93, 94, 95, 96, 97, 98, 82, 83, 99, 296, 297, 298, 299, 100, 363, 364, 365, 366, 458, 459, 460, 461, 462, 465, 466, 467, 470, 471, 472, 473, 474, 475, 476, 477, 478, 479, 480, 481, 482, 483, 484] (by decide +kernel) (by decide +kernel)) (goodIn_sub (fun _ h => List.mem_cons_of_mem _ (List.mem_append_left _ (List.mem_append_right _ h))) (by decide +kernel))
set_option maxRecDepth 20000 in
theorem gL_call_L_tryUndo : GoodIn wsL_call (va_wsS RL 141 yL_tryUndo wsL_tryUndo) := goodIn_app (goodIn_of _ (by decide +kernel)) ggL_call_L_tryUndo
set_option maxRecDepth 20000 in
theorem ggL_call_L_tryLife : GoodIn wsL_call wsL_tryLife := goodIn_ca (goodIn_r _ [369, 202, 203, 370, 371, 372, 12, 373, 374, 40, 208, 209, 210, 211, 212, 213, 214, 120, 121, 80, 122, 88, 375, 293, 294, 295, 89, 90, 91, 92, 93, 94, 95, 96, 97, 98, 82, 83, 99, 296, 297, 298, 299, 100, 322, 152, 153, 154, 155, 156, 157, 158, 119, 125, 126, 127, 128, 129, 130, 131, 132, 133, 134, 135, 136, 137, 138, 139, 140, 141, 142, 143, 144, 458, 459, 460, 461, 462, 470, 471, 472, 473, 474, 475, 476, 477, 478, 479, 480, 481, 482, 483, 484] (by decide +kernel) (by decide +kernel)) (goodIn_sub (fun _ h => List.mem_cons_of_mem _ (List.mem_append_right _ h)) (by decide +kernel))
set_option maxRecDepth 20000 in
theorem gL_call_L_tryLife : GoodIn wsL_call (va_wsS RL 144 yL_tryLife wsL_tryLife) := goodIn_app (goodIn_of _ (by decide +kernel)) ggL_call_L_tryLife
set_option maxRecDepth 20000 in
theorem ggL_call_L_tryLong : GoodIn wsL_call wsL_tryLong := goodIn_ca (goodIn_r _ [378, 6, 8, 379, 380, 381, 12, 382, 374, 40, 332, 333, 334, 335, 16, 17, 336, 166, 167, 80, 168, 88, 375, 293, 294, 295, 89, 90, 91, 92, 93, 94, 95, 96, 97, 98, 82, 83, 99, 296, 297, 298, 299, 100, 337, 170, 171, 172, 155, 156, 157, 158, 119, 120, 121, 122, 125, 126, 127, 128, 129, 130, 131, 132, 133, 134, 135, 136, 137, 138, 139, 140, 141, 142, 143, 144, 458, 459, 460, 461, 462, 470, 471, 472, 473, 474, 475, 476, 477, 478, 479, 480, 481, 482, 483, 484] (by decide +kernel) (by decide +kernel)) (goodIn_sub (fun _ h => List.mem_cons_of_mem _ (List.mem_append_left _ (List.mem_append_right _ h))) (by decide +kernel))
set_option maxRecDepth 20000 in
theorem gL_call_L_tryLong : GoodIn wsL_call (va_wsS RL 147 yL_tryLong wsL_tryLong) := goodIn_app (goodIn_of _ (by decide +kernel)) ggL_call_L_tryLong
set_option maxRecDepth 20000 in
theorem ggL_call_L_tryEvery : GoodIn wsL_call wsL_tryEvery := goodIn_ca (goodIn_ca (goodIn_r _ [385, 202, 5, 203, 7, 386, 387, 388, 12, 389, 14, 15, 208, 209, 210, 211, 212, 213, 40, 214, 120, 121, 80, 122, 88, 318, 319, 320, 321, 149, 150, 390, 391, 392, 393, 374, 394, 375, 293, 294, 295, 89, 90, 91, 92, 93, 94, 95, 96, 97, 98, 82, 83, 99, 296, 297, 298, 299, 100, 322, 152, 153, 154, 155, 156, 157, 158, 119, 125, 126, 127, 128, 129, 130, 131, 132, 133, 134, 135, 136, 137, 138, 139, 140, 141, 142, 143, 144, 395, 185, 186, 187, 188, 189, 190, 191, 458, 459, 460, 461, 462, 470, 471, 472, 473, 474, 475, 476, 477, 478, 479, 480, 481, 482, 483, 484] (by decide +kernel) (by decide +kernel)) (goodIn_sub (fun _ h => List.mem_cons_of_mem _ (List.mem_append_left _ (List.mem_append_left _ (List.mem_append_right _ h)))) (by decide +kernel))) (goodIn_sub (fun _ h => List.mem_cons_of_mem _ (List.mem_append_right _ h)) (by decide +kernel))
set_option maxRecDepth 20000 in
theorem gL_call_L_tryEvery : GoodIn wsL_call (va_wsS RL 150 yL_tryEvery wsL_tryEvery) := goodIn_app (goodIn_of _ (by decide +kernel)) ggL_call_L_tryEvery
set_option maxRecDepth 20000 in
theorem ggL_call_L_tryBest : GoodIn wsL_call wsL_tryBest := goodIn_ca (goodIn_ca (goodIn_r _ [398, 202, 5, 203, 7, 399, 400, 401, 12, 402, 208, 209, 210, 211, 212, 213, 40, 214, 120, 121, 80, 122, 88, 318, 319, 320, 14, 15, 321, 149, 150, 390, 391, 392, 393, 374, 394, 375, 293, 294, 295, 89, 90, 91, 92, 93, 94, 95, 96, 97, 98, 82, 83, 99, 296, 297, 298, 299, 100, 322, 152, 153, 154, 155, 156, 157, 158, 119, 125, 126, 127, 128, 129, 130, 131, 132, 133, 134, 135, 136, 137, 138, 139, 140, 141, 142, 143, 144, 395, 185, 186, 187, 188, 189, 190, 191, 458, 459, 460, 461, 462, 470, 471, 472, 473, 474, 475, 476, 477, 478, 479, 480, 481, 482, 483, 484] (by decide +kernel) (by decide +kernel)) (goodIn_sub (fun _ h => List.mem_cons_of_mem _ (List.mem_append_right _ h)) (by decide +kernel))) (goodIn_sub (fun _ h => List.mem_cons_of_mem _ (List.mem_append_left _ (List.mem_append_left _ (List.mem_append_right _ h)))) (by decide +kernel))
set_option maxRecDepth 20000 in
theorem gL_call_L_tryBest : GoodIn wsL_call (va_wsS RL 153 yL_tryBest wsL_tryBest) := goodIn_app (goodIn_of _ (by decide +kernel)) ggL_call_L_tryBest
set_option maxRecDepth 20000 in
theorem ggL_call_L_tryMoves : GoodIn wsL_call wsL_tryMoves := goodIn_ca (goodIn_r _ [405, 202, 203, 406, 407, 408, 12, 409, 40, 208, 209, 210, 211, 212, 213, 214, 120, 121, 80, 122, 88, 410, 411, 412, 413, 90, 91, 133, 134, 135, 136, 89, 458, 459, 460, 461, 462, 470, 471, 472, 473, 474, 475, 476, 477, 478, 479, 480, 481, 482, 483, 484] (by decide +kernel) (by decide +kernel)) (goodIn_sub (fun _ h => List.mem_cons_of_mem _ (List.mem_append_right _ h)) (by decide +kernel))
set_option maxRecDepth 20000 in
theorem gL_call_L_tryMoves : GoodIn wsL_call (va_wsS RL 156 yL_tryMoves wsL_tryMoves) := goodIn_app (goodIn_of _ (by decide +kernel)) ggL_call_L_tryMoves
set_option maxRecDepth 20000 in
theorem ggL_call_L_tryBehind : GoodIn wsL_call wsL_tryBehind := goodIn_ca (goodIn_ca (goodIn_r _ [416, 202, 5, 203, 7, 417, 418, 419, 12, 420, 14, 15, 40, 208, 209, 210, 211, 212, 213, 214, 120, 121, 80, 122, 88, 421, 422, 423, 424, 91, 90, 119, 133, 134, 135, 136, 89, 458, 459, 460, 461, 462, 470, 471, 472, 473, 474, 475, 476, 477, 478, 479, 480, 481, 482, 483, 484] (by decide +kernel) (by decide +kernel)) (goodIn_sub (fun _ h => List.mem_cons_of_mem _ (List.mem_append_left _ (List.mem_append_left _ (List.mem_append_right _ h)))) (by decide +kernel))) (goodIn_sub (fun _ h => List.mem_cons_of_mem _ (List.mem_append_right _ h)) (by decide +kernel))
set_option maxRecDepth 20000 in
theorem gL_call_L_tryBehind : GoodIn wsL_call (va_wsS RL 159 yL_tryBehind wsL_tryBehind) := goodIn_app (goodIn_of _ (by decide +kernel)) ggL_call_L_tryBehind
set_option maxRecDepth 20000 in
theorem ggL_call_L_tryKeep : GoodIn wsL_call wsL_tryKeep := goodIn_ca (goodIn_r _ [427, 202, 203, 428, 429, 430, 12, 431, 39, 40, 432, 433, 434, 435, 212, 213, 436, 437, 74, 438, 439, 440, 441, 442, 443, 444, 284, 80, 76, 445, 286, 287, 288, 289, 290, 82, 83, 291, 99, 100, 446, 293, 294, 295, 88, 89, 90, 91, 92, 93, 94, 95, 96, 97, 98, 296, 297, 298, 299, 458, 459, 460, 461, 462, 470, 471, 472, 473, 474, 475, 476, 477, 478, 479, 480, 481, 482, 483, 484, 468, 469] (by decide +kernel) (by decide +kernel)) (goodIn_sub (fun _ h => List.mem_cons_of_mem _ (List.mem_append_right _ h)) (by decide +kernel))
set_option maxRecDepth 20000 in
theorem gL_call_L_tryKeep : GoodIn wsL_call (va_wsS RL 162 yL_tryKeep wsL_tryKeep) := goodIn_app (goodIn_of _ (by decide +kernel)) ggL_call_L_tryKeep
set_option maxRecDepth 20000 in
theorem ggL_call_L_tryBack : GoodIn wsL_call wsL_tryBack := goodIn_ca (goodIn_ca (goodIn_r _ [449, 202, 6, 203, 8, 450, 451, 452, 12, 453, 16, 17, 39, 40, 38, 432, 433, 434, 435, 212, 213, 436, 437, 74, 438, 454, 455, 456, 457, 76, 443, 445, 446, 293, 294, 80, 295, 88, 89, 90, 91, 92, 93, 94, 95, 96, 97, 98, 82, 83, 99, 296, 297, 298, 299, 100, 65, 66, 67, 68, 69, 70, 458, 459, 460, 461, 462, 470, 471, 472, 473, 474, 475, 476, 477, 478, 479, 480, 481, 482, 483, 484, 468, 469, 465, 466, 467] (by decide +kernel) (by decide +kernel)) (goodIn_sub (fun _ h => List.mem_cons_of_mem _ (List.mem_append_left _ (List.mem_append_right _ h))) (by decide +kernel))) (goodIn_sub (fun _ h => List.mem_cons_of_mem _ (List.mem_append_right _ h)) (by decide +kernel))
set_option maxRecDepth 20000 in
theorem gL_call_L_tryBack : GoodIn wsL_call (va_wsS RL 165 yL_tryBack wsL_tryBack) := goodIn_app (goodIn_of _ (by decide +kernel)) ggL_call_L_tryBack
theorem dL_call_0 : decode cL_call 0 = .ok (.iload_n 1, 1) := by decide +kernel
theorem dL_call_1 : decode cL_call 1 = .ok (.tableswitch 233 0 20 #[99, 105, 110, 116, 122, 128, 134, 140, 146, 155, 162, 169, 175, 182, 187, 193, 198, 207, 214, 220, 227], 99) := by decide +kernel
theorem dL_call_100 : decode cL_call 100 = .ok (.aload_n 0, 1) := by decide +kernel
theorem dL_call_101 : decode cL_call 101 = .ok (.iload_n 2, 1) := by decide +kernel
theorem dL_call_102 : decode cL_call 102 = .ok (.invokestatic 96, 3) := by decide +kernel
theorem dL_call_105 : decode cL_call 105 = .ok (.ireturn, 1) := by decide +kernel
theorem dL_call_106 : decode cL_call 106 = .ok (.aload_n 0, 1) := by decide +kernel
theorem dL_call_107 : decode cL_call 107 = .ok (.invokestatic 102, 3) := by decide +kernel
theorem dL_call_110 : decode cL_call 110 = .ok (.ireturn, 1) := by decide +kernel
theorem dL_call_111 : decode cL_call 111 = .ok (.aload_n 0, 1) := by decide +kernel
theorem dL_call_112 : decode cL_call 112 = .ok (.iload_n 2, 1) := by decide +kernel
theorem dL_call_113 : decode cL_call 113 = .ok (.invokestatic 106, 3) := by decide +kernel
theorem dL_call_116 : decode cL_call 116 = .ok (.ireturn, 1) := by decide +kernel
theorem dL_call_117 : decode cL_call 117 = .ok (.aload_n 0, 1) := by decide +kernel
theorem dL_call_118 : decode cL_call 118 = .ok (.iload_n 2, 1) := by decide +kernel
theorem dL_call_119 : decode cL_call 119 = .ok (.invokestatic 109, 3) := by decide +kernel
theorem dL_call_122 : decode cL_call 122 = .ok (.ireturn, 1) := by decide +kernel
theorem dL_call_123 : decode cL_call 123 = .ok (.aload_n 0, 1) := by decide +kernel
theorem dL_call_124 : decode cL_call 124 = .ok (.iload_n 2, 1) := by decide +kernel
theorem dL_call_125 : decode cL_call 125 = .ok (.invokestatic 112, 3) := by decide +kernel
theorem dL_call_128 : decode cL_call 128 = .ok (.ireturn, 1) := by decide +kernel
theorem dL_call_129 : decode cL_call 129 = .ok (.aload_n 0, 1) := by decide +kernel
theorem dL_call_130 : decode cL_call 130 = .ok (.iload_n 2, 1) := by decide +kernel
theorem dL_call_131 : decode cL_call 131 = .ok (.invokestatic 115, 3) := by decide +kernel
theorem dL_call_134 : decode cL_call 134 = .ok (.ireturn, 1) := by decide +kernel
theorem dL_call_135 : decode cL_call 135 = .ok (.aload_n 0, 1) := by decide +kernel
theorem dL_call_136 : decode cL_call 136 = .ok (.iload_n 2, 1) := by decide +kernel
theorem dL_call_137 : decode cL_call 137 = .ok (.invokestatic 118, 3) := by decide +kernel
theorem dL_call_140 : decode cL_call 140 = .ok (.ireturn, 1) := by decide +kernel
theorem dL_call_141 : decode cL_call 141 = .ok (.aload_n 0, 1) := by decide +kernel
theorem dL_call_142 : decode cL_call 142 = .ok (.iload_n 2, 1) := by decide +kernel
theorem dL_call_143 : decode cL_call 143 = .ok (.invokestatic 121, 3) := by decide +kernel
theorem dL_call_146 : decode cL_call 146 = .ok (.ireturn, 1) := by decide +kernel
theorem dL_call_147 : decode cL_call 147 = .ok (.aload_n 0, 1) := by decide +kernel
theorem dL_call_148 : decode cL_call 148 = .ok (.iload_n 2, 1) := by decide +kernel
theorem dL_call_149 : decode cL_call 149 = .ok (.iload_n 3, 1) := by decide +kernel
theorem dL_call_150 : decode cL_call 150 = .ok (.iload 4, 2) := by decide +kernel
theorem dL_call_152 : decode cL_call 152 = .ok (.invokestatic 124, 3) := by decide +kernel
theorem dL_call_155 : decode cL_call 155 = .ok (.ireturn, 1) := by decide +kernel
theorem dL_call_156 : decode cL_call 156 = .ok (.aload_n 0, 1) := by decide +kernel
theorem dL_call_157 : decode cL_call 157 = .ok (.iload_n 2, 1) := by decide +kernel
theorem dL_call_158 : decode cL_call 158 = .ok (.iload_n 3, 1) := by decide +kernel
theorem dL_call_159 : decode cL_call 159 = .ok (.invokestatic 128, 3) := by decide +kernel
theorem dL_call_162 : decode cL_call 162 = .ok (.ireturn, 1) := by decide +kernel
theorem dL_call_163 : decode cL_call 163 = .ok (.aload_n 0, 1) := by decide +kernel
theorem dL_call_164 : decode cL_call 164 = .ok (.iload_n 2, 1) := by decide +kernel
theorem dL_call_165 : decode cL_call 165 = .ok (.iload_n 3, 1) := by decide +kernel
theorem dL_call_166 : decode cL_call 166 = .ok (.invokestatic 132, 3) := by decide +kernel
theorem dL_call_169 : decode cL_call 169 = .ok (.ireturn, 1) := by decide +kernel
theorem dL_call_170 : decode cL_call 170 = .ok (.aload_n 0, 1) := by decide +kernel
theorem dL_call_171 : decode cL_call 171 = .ok (.iload_n 2, 1) := by decide +kernel
theorem dL_call_172 : decode cL_call 172 = .ok (.invokestatic 135, 3) := by decide +kernel
theorem dL_call_175 : decode cL_call 175 = .ok (.ireturn, 1) := by decide +kernel
theorem dL_call_176 : decode cL_call 176 = .ok (.aload_n 0, 1) := by decide +kernel
theorem dL_call_177 : decode cL_call 177 = .ok (.iload_n 2, 1) := by decide +kernel
theorem dL_call_178 : decode cL_call 178 = .ok (.iload_n 3, 1) := by decide +kernel
theorem dL_call_179 : decode cL_call 179 = .ok (.invokestatic 138, 3) := by decide +kernel
theorem dL_call_182 : decode cL_call 182 = .ok (.ireturn, 1) := by decide +kernel
theorem dL_call_183 : decode cL_call 183 = .ok (.aload_n 0, 1) := by decide +kernel
theorem dL_call_184 : decode cL_call 184 = .ok (.invokestatic 141, 3) := by decide +kernel
theorem dL_call_187 : decode cL_call 187 = .ok (.ireturn, 1) := by decide +kernel
theorem dL_call_188 : decode cL_call 188 = .ok (.aload_n 0, 1) := by decide +kernel
theorem dL_call_189 : decode cL_call 189 = .ok (.iload_n 2, 1) := by decide +kernel
theorem dL_call_190 : decode cL_call 190 = .ok (.invokestatic 144, 3) := by decide +kernel
theorem dL_call_193 : decode cL_call 193 = .ok (.ireturn, 1) := by decide +kernel
theorem dL_call_194 : decode cL_call 194 = .ok (.aload_n 0, 1) := by decide +kernel
theorem dL_call_195 : decode cL_call 195 = .ok (.invokestatic 147, 3) := by decide +kernel
theorem dL_call_198 : decode cL_call 198 = .ok (.ireturn, 1) := by decide +kernel
theorem dL_call_199 : decode cL_call 199 = .ok (.aload_n 0, 1) := by decide +kernel
theorem dL_call_200 : decode cL_call 200 = .ok (.iload_n 2, 1) := by decide +kernel
theorem dL_call_201 : decode cL_call 201 = .ok (.iload_n 3, 1) := by decide +kernel
theorem dL_call_202 : decode cL_call 202 = .ok (.iload 4, 2) := by decide +kernel
theorem dL_call_204 : decode cL_call 204 = .ok (.invokestatic 150, 3) := by decide +kernel
theorem dL_call_207 : decode cL_call 207 = .ok (.ireturn, 1) := by decide +kernel
theorem dL_call_208 : decode cL_call 208 = .ok (.aload_n 0, 1) := by decide +kernel
theorem dL_call_209 : decode cL_call 209 = .ok (.iload_n 2, 1) := by decide +kernel
theorem dL_call_210 : decode cL_call 210 = .ok (.iload_n 3, 1) := by decide +kernel
theorem dL_call_211 : decode cL_call 211 = .ok (.invokestatic 153, 3) := by decide +kernel
theorem dL_call_214 : decode cL_call 214 = .ok (.ireturn, 1) := by decide +kernel
theorem dL_call_215 : decode cL_call 215 = .ok (.aload_n 0, 1) := by decide +kernel
theorem dL_call_216 : decode cL_call 216 = .ok (.iload_n 2, 1) := by decide +kernel
theorem dL_call_217 : decode cL_call 217 = .ok (.invokestatic 156, 3) := by decide +kernel
theorem dL_call_220 : decode cL_call 220 = .ok (.ireturn, 1) := by decide +kernel
theorem dL_call_221 : decode cL_call 221 = .ok (.aload_n 0, 1) := by decide +kernel
theorem dL_call_222 : decode cL_call 222 = .ok (.iload_n 2, 1) := by decide +kernel
theorem dL_call_223 : decode cL_call 223 = .ok (.iload_n 3, 1) := by decide +kernel
theorem dL_call_224 : decode cL_call 224 = .ok (.invokestatic 159, 3) := by decide +kernel
theorem dL_call_227 : decode cL_call 227 = .ok (.ireturn, 1) := by decide +kernel
theorem dL_call_228 : decode cL_call 228 = .ok (.aload_n 0, 1) := by decide +kernel
theorem dL_call_229 : decode cL_call 229 = .ok (.iload_n 2, 1) := by decide +kernel
theorem dL_call_230 : decode cL_call 230 = .ok (.invokestatic 162, 3) := by decide +kernel
theorem dL_call_233 : decode cL_call 233 = .ok (.ireturn, 1) := by decide +kernel
theorem dL_call_234 : decode cL_call 234 = .ok (.aload_n 0, 1) := by decide +kernel
theorem dL_call_235 : decode cL_call 235 = .ok (.iload_n 2, 1) := by decide +kernel
theorem dL_call_236 : decode cL_call 236 = .ok (.invokestatic 165, 3) := by decide +kernel
theorem dL_call_239 : decode cL_call 239 = .ok (.ireturn, 1) := by decide +kernel
theorem dL_cell_0 : decode cL_cell 0 = .ok (.iload_n 1, 1) := by decide +kernel
theorem dL_cell_1 : decode cL_cell 1 = .ok (.aload_n 0, 1) := by decide +kernel
theorem dL_cell_2 : decode cL_cell 2 = .ok (.arraylength, 1) := by decide +kernel
theorem dL_cell_3 : decode cL_cell 3 = .ok (.if_icmp .ge 9, 3) := by decide +kernel
theorem dL_cell_6 : decode cL_cell 6 = .ok (.aload_n 0, 1) := by decide +kernel
theorem dL_cell_7 : decode cL_cell 7 = .ok (.iload_n 1, 1) := by decide +kernel
theorem dL_cell_8 : decode cL_cell 8 = .ok (.iaload, 1) := by decide +kernel
theorem dL_cell_9 : decode cL_cell 9 = .ok (.goto 13, 3) := by decide +kernel
theorem dL_cell_12 : decode cL_cell 12 = .ok (.ldc 168, 2) := by decide +kernel
theorem dL_cell_14 : decode cL_cell 14 = .ok (.iload_n 1, 1) := by decide +kernel
theorem dL_cell_15 : decode cL_cell 15 = .ok (.iconst 3, 1) := by decide +kernel
theorem dL_cell_16 : decode cL_cell 16 = .ok (.iadd, 1) := by decide +kernel
theorem dL_cell_17 : decode cL_cell 17 = .ok (.imul, 1) := by decide +kernel
theorem dL_cell_18 : decode cL_cell 18 = .ok (.sipush 11171, 3) := by decide +kernel
theorem dL_cell_21 : decode cL_cell 21 = .ok (.iadd, 1) := by decide +kernel
theorem dL_cell_22 : decode cL_cell 22 = .ok (.ldc 169, 2) := by decide +kernel
theorem dL_cell_24 : decode cL_cell 24 = .ok (.iand, 1) := by decide +kernel
theorem dL_cell_25 : decode cL_cell 25 = .ok (.ireturn, 1) := by decide +kernel
theorem dL_thrown_0 : decode cL_thrown 0 = .ok (.iload_n 0, 1) := by decide +kernel
theorem dL_thrown_1 : decode cL_thrown 1 = .ok (.ldc 39, 2) := by decide +kernel
theorem dL_thrown_3 : decode cL_thrown 3 = .ok (.if_icmp .eq 15, 3) := by decide +kernel
theorem dL_thrown_6 : decode cL_thrown 6 = .ok (.iload_n 0, 1) := by decide +kernel
theorem dL_thrown_7 : decode cL_thrown 7 = .ok (.ldc 15, 2) := by decide +kernel
theorem dL_thrown_9 : decode cL_thrown 9 = .ok (.if_icmp .eq 9, 3) := by decide +kernel
theorem dL_thrown_12 : decode cL_thrown 12 = .ok (.iload_n 0, 1) := by decide +kernel
theorem dL_thrown_13 : decode cL_thrown 13 = .ok (.ldc 26, 2) := by decide +kernel
theorem dL_thrown_15 : decode cL_thrown 15 = .ok (.if_icmp .ne 7, 3) := by decide +kernel
theorem dL_thrown_18 : decode cL_thrown 18 = .ok (.iconst 1, 1) := by decide +kernel
theorem dL_thrown_19 : decode cL_thrown 19 = .ok (.goto 4, 3) := by decide +kernel
theorem dL_thrown_22 : decode cL_thrown 22 = .ok (.iconst 0, 1) := by decide +kernel
theorem dL_thrown_23 : decode cL_thrown 23 = .ok (.ireturn, 1) := by decide +kernel
end
section
set_option maxRecDepth 20000 in
theorem ggL_refuses_L_call : GoodIn wsL_refuses wsL_call := goodIn_ca (goodIn_ca (goodIn_ca (goodIn_r _ [7, 8, 9, 6, 10, 11, 12, 1, 13, 14, 15, 16, 17, 18, 19, 20, 21, 22, 23, 24, 25, 26, 27, 28, 29, 30, 31, 32, 33, 34, 35, 36, 37, 38, 39, 40, 41, 42, 43, 44, 45, 46, 47, 48, 49, 50, 51, 52, 53, 54, 55, 56, 57, 58, 59, 60, 61, 62, 63, 64, 65, 66, 67, 68, 69, 70, 71, 72, 73, 74, 75, 76, 77, 78, 79, 80, 81, 82, 83, 84, 85, 86, 87, 88, 89, 90, 91, 92, 93, 94, 95, 96, 97, 98, 99, 100, 101, 102, 103, 104, 105, 106, 107, 108, 109, 110, 111, 112, 113, 114, 115, 116, 117, 118, 119, 120, 121, 122, 123, 124, 125, 126, 127, 128, 129, 130, 131, 132, 133, 134, 135, 136, 137, 138, 139, 140, 141, 142, 143, 144, 145, 146, 147, 148, 149, 150, 151, 152, 153, 154, 155, 156, 157, 158, 159, 160, 161, 162, 163, 164, 165, 166, 167, 168, 169, 170, 171, 172, 173, 174, 175, 176, 177, 178, 179, 180, 181, 182, 183, 184, 185, 186, 187, 188, 189, 190, 191, 192, 193, 194, 195, 196, 197, 198, 199, 200, 201, 202, 203, 204, 205, 206, 207, 2, 208, 209, 210, 211, 212, 213, 214, 215, 216, 217, 218, 219, 220, 221, 222, 223, 224, 225, 226, 227, 228, 229, 230, 231, 232, 233, 234, 235, 236, 237, 238, 239, 240, 241, 242, 243, 244, 245, 246, 247, 248, 249, 250, 251, 252, 253, 254, 255, 256, 257, 258, 259, 260, 261, 262, 263, 264, 265, 266, 267, 268, 269, 270, 271, 272, 273, 274, 275, 276, 277, 278, 279, 280, 281, 282, 283, 284, 285, 286, 287, 288, 289, 290, 291, 292, 293, 294, 295, 296, 297, 298, 299, 300, 301, 302, 303, 304, 305, 306, 307, 308, 309, 310, 311, 312, 313, 314, 315, 316, 317, 318, 319, 320, 321, 322, 323, 324, 325, 326, 327, 328, 329, 330, 331, 332, 333, 334, 335, 336, 337, 338, 339, 340, 341, 342, 343, 344, 345, 346, 347, 348, 349, 350, 351, 352, 353, 354, 355, 356, 357, 358, 359, 360, 361, 362, 363, 364, 365, 366, 367, 368, 369, 370, 371, 372, 373, 374, 375, 376, 377, 378, 379, 380, 381, 382, 383, 384, 385, 386, 387, 388, 389, 390, 391, 392, 393, 394, 395, 396, 397, 398, 399, 400, 401, 402, 403, 404, 405, 406, 407, 408, 409, 410, 411, 412, 413, 414, 415, 416, 417, 418, 419, 420, 421, 422, 423, 424, 425, 426, 427, 428, 429, 430, 431, 432, 433, 434, 435, 436, 437, 438, 439, 440, 441, 442, 443, 444, 445, 446, 447, 448, 449, 450, 451, 452, 453, 454, 455, 456, 457, 458, 459, 460, 461, 508, 509, 510, 511, 512, 513, 514, 515, 516, 517, 518, 519, 520, 521, 522, 523, 524, 525, 526, 527, 528, 529, 530, 531, 532, 533, 534] (by decide +kernel) (by decide +kernel)) (goodIn_sub (fun _ h => List.mem_cons_of_mem _ (List.mem_append_left _ (List.mem_append_left _ (List.mem_append_right _ h)))) (by decide +kernel))) (goodIn_sub (fun _ h => List.mem_cons_of_mem _ (List.mem_append_left _ (List.mem_append_right _ h))) (by decide +kernel))) (goodIn_sub (fun _ h => List.mem_cons_of_mem _ (List.mem_append_right _ h)) (by decide +kernel))
set_option maxRecDepth 20000 in
theorem gL_refuses_L_call : GoodIn wsL_refuses (va_wsS RL 170 yL_call wsL_call) := goodIn_app (goodIn_of _ (by decide +kernel)) ggL_refuses_L_call
set_option maxRecDepth 20000 in
theorem ggL_refuses_L_doScript : GoodIn wsL_refuses wsL_doScript := goodIn_ca (goodIn_r _ [464, 11, 1, 465, 466, 467, 17, 468, 19, 20, 378, 45, 469, 470, 471, 472, 379, 297, 298, 85, 299, 93, 94, 95, 96, 97, 98, 99, 100, 101, 102, 103, 87, 88, 104, 300, 301, 302, 303, 105, 473, 474, 475, 476, 477, 478, 479, 480, 121, 122, 123, 124, 125, 126, 127, 128, 129, 130, 131, 132, 133, 134, 135, 136, 137, 138, 139, 140, 141, 142, 143, 144, 145, 146, 147, 148, 149, 481, 151, 152, 153, 154, 155, 156, 157, 158, 159, 160, 161, 162, 163, 482, 165, 166, 167, 168, 169, 170, 171, 172, 173, 174, 175, 176, 177, 483, 484, 485, 486, 350, 351, 487, 353, 354, 355, 488, 489, 490, 491, 240, 241, 242, 492, 255, 256, 257, 258, 493, 508, 509, 510, 511, 512, 520, 521, 522, 523, 524, 525, 526, 527, 528, 529, 530, 531, 532, 533, 534] (by decide +kernel) (by decide +kernel)) (goodIn_sub (fun _ h => List.mem_cons_of_mem _ (List.mem_append_left _ (List.mem_append_left _ (List.mem_append_right _ h)))) (by decide +kernel))
set_option maxRecDepth 20000 in
theorem gL_refuses_L_doScript : GoodIn wsL_refuses (va_wsS RL 174 yL_doScript wsL_doScript) := goodIn_app (goodIn_of _ (by decide +kernel)) ggL_refuses_L_doScript
set_option maxRecDepth 20000 in
theorem ggL_refuses_L_doSimulate : GoodIn wsL_refuses wsL_doSimulate := goodIn_ca (goodIn_r _ [496, 11, 1, 497, 498, 499, 17, 500, 19, 20, 45, 378, 501, 340, 171, 172, 85, 173, 93, 379, 297, 298, 299, 94, 95, 96, 97, 98, 99, 100, 101, 102, 103, 87, 88, 104, 300, 301, 302, 303, 105, 502, 503, 504, 505, 506, 507, 170, 130, 131, 132, 133, 124, 125, 126, 127, 134, 135, 136, 137, 138, 139, 140, 141, 142, 143, 144, 145, 146, 147, 148, 149, 399, 190, 191, 192, 193, 194, 195, 196, 508, 509, 510, 511, 512, 520, 521, 522, 523, 524, 525, 526, 527, 528, 529, 530, 531, 532, 533, 534] (by decide +kernel) (by decide +kernel)) (goodIn_sub (fun _ h => List.mem_cons_of_mem _ (List.mem_append_left _ (List.mem_append_left _ (List.mem_append_right _ h)))) (by decide +kernel))
set_option maxRecDepth 20000 in
theorem gL_refuses_L_doSimulate : GoodIn wsL_refuses (va_wsS RL 180 yL_doSimulate wsL_doSimulate) := goodIn_app (goodIn_of _ (by decide +kernel)) ggL_refuses_L_doSimulate
theorem dL_refuses_0 : decode cL_refuses 0 = .ok (.aload_n 0, 1) := by decide +kernel
theorem dL_refuses_1 : decode cL_refuses 1 = .ok (.iconst 2, 1) := by decide +kernel
theorem dL_refuses_2 : decode cL_refuses 2 = .ok (.iconst 0, 1) := by decide +kernel
theorem dL_refuses_3 : decode cL_refuses 3 = .ok (.iconst 0, 1) := by decide +kernel
theorem dL_refuses_4 : decode cL_refuses 4 = .ok (.iconst 0, 1) := by decide +kernel
theorem dL_refuses_5 : decode cL_refuses 5 = .ok (.invokestatic 170, 3) := by decide +kernel
theorem dL_refuses_8 : decode cL_refuses 8 = .ok (.istore_n 2, 1) := by decide +kernel
theorem dL_refuses_9 : decode cL_refuses 9 = .ok (.iload_n 2, 1) := by decide +kernel
theorem dL_refuses_10 : decode cL_refuses 10 = .ok (.iload_n 1, 1) := by decide +kernel
theorem dL_refuses_11 : decode cL_refuses 11 = .ok (.bipush 50, 2) := by decide +kernel
theorem dL_refuses_13 : decode cL_refuses 13 = .ok (.irem, 1) := by decide +kernel
theorem dL_refuses_14 : decode cL_refuses 14 = .ok (.iadd, 1) := by decide +kernel
theorem dL_refuses_15 : decode cL_refuses 15 = .ok (.istore_n 3, 1) := by decide +kernel
theorem dL_refuses_16 : decode cL_refuses 16 = .ok (.iload_n 1, 1) := by decide +kernel
theorem dL_refuses_17 : decode cL_refuses 17 = .ok (.iconst 2, 1) := by decide +kernel
theorem dL_refuses_18 : decode cL_refuses 18 = .ok (.irem, 1) := by decide +kernel
theorem dL_refuses_19 : decode cL_refuses 19 = .ok (.ifCond .ne 12, 3) := by decide +kernel
theorem dL_refuses_22 : decode cL_refuses 22 = .ok (.iconst (-1), 1) := by decide +kernel
theorem dL_refuses_23 : decode cL_refuses 23 = .ok (.iload_n 1, 1) := by decide +kernel
theorem dL_refuses_24 : decode cL_refuses 24 = .ok (.bipush 99, 2) := by decide +kernel
theorem dL_refuses_26 : decode cL_refuses 26 = .ok (.irem, 1) := by decide +kernel
theorem dL_refuses_27 : decode cL_refuses 27 = .ok (.isub, 1) := by decide +kernel
theorem dL_refuses_28 : decode cL_refuses 28 = .ok (.goto 11, 3) := by decide +kernel
theorem dL_refuses_31 : decode cL_refuses 31 = .ok (.sipush 1000, 3) := by decide +kernel
theorem dL_refuses_34 : decode cL_refuses 34 = .ok (.iload_n 1, 1) := by decide +kernel
theorem dL_refuses_35 : decode cL_refuses 35 = .ok (.bipush 99, 2) := by decide +kernel
theorem dL_refuses_37 : decode cL_refuses 37 = .ok (.irem, 1) := by decide +kernel
theorem dL_refuses_38 : decode cL_refuses 38 = .ok (.iadd, 1) := by decide +kernel
theorem dL_refuses_39 : decode cL_refuses 39 = .ok (.istore 4, 2) := by decide +kernel
theorem dL_refuses_41 : decode cL_refuses 41 = .ok (.aload_n 0, 1) := by decide +kernel
theorem dL_refuses_42 : decode cL_refuses 42 = .ok (.iconst 0, 1) := by decide +kernel
theorem dL_refuses_43 : decode cL_refuses 43 = .ok (.iload_n 1, 1) := by decide +kernel
theorem dL_refuses_44 : decode cL_refuses 44 = .ok (.iconst 2, 1) := by decide +kernel
theorem dL_refuses_45 : decode cL_refuses 45 = .ok (.irem, 1) := by decide +kernel
theorem dL_refuses_46 : decode cL_refuses 46 = .ok (.ifCond .ne 12, 3) := by decide +kernel
theorem dL_refuses_49 : decode cL_refuses 49 = .ok (.iconst (-1), 1) := by decide +kernel
theorem dL_refuses_50 : decode cL_refuses 50 = .ok (.iload_n 1, 1) := by decide +kernel
theorem dL_refuses_51 : decode cL_refuses 51 = .ok (.bipush 9, 2) := by decide +kernel
theorem dL_refuses_53 : decode cL_refuses 53 = .ok (.irem, 1) := by decide +kernel
theorem dL_refuses_54 : decode cL_refuses 54 = .ok (.isub, 1) := by decide +kernel
theorem dL_refuses_55 : decode cL_refuses 55 = .ok (.goto 11, 3) := by decide +kernel
theorem dL_refuses_58 : decode cL_refuses 58 = .ok (.sipush 256, 3) := by decide +kernel
theorem dL_refuses_61 : decode cL_refuses 61 = .ok (.iload_n 1, 1) := by decide +kernel
theorem dL_refuses_62 : decode cL_refuses 62 = .ok (.bipush 9, 2) := by decide +kernel
theorem dL_refuses_64 : decode cL_refuses 64 = .ok (.irem, 1) := by decide +kernel
theorem dL_refuses_65 : decode cL_refuses 65 = .ok (.iadd, 1) := by decide +kernel
theorem dL_refuses_66 : decode cL_refuses 66 = .ok (.iconst 0, 1) := by decide +kernel
theorem dL_refuses_67 : decode cL_refuses 67 = .ok (.iconst 0, 1) := by decide +kernel
theorem dL_refuses_68 : decode cL_refuses 68 = .ok (.invokestatic 170, 3) := by decide +kernel
theorem dL_refuses_71 : decode cL_refuses 71 = .ok (.ldc 15, 2) := by decide +kernel
theorem dL_refuses_73 : decode cL_refuses 73 = .ok (.if_icmp .ne 628, 3) := by decide +kernel
theorem dL_refuses_76 : decode cL_refuses 76 = .ok (.aload_n 0, 1) := by decide +kernel
theorem dL_refuses_77 : decode cL_refuses 77 = .ok (.iconst 2, 1) := by decide +kernel
theorem dL_refuses_78 : decode cL_refuses 78 = .ok (.bipush 12, 2) := by decide +kernel
theorem dL_refuses_80 : decode cL_refuses 80 = .ok (.iload_n 1, 1) := by decide +kernel
theorem dL_refuses_81 : decode cL_refuses 81 = .ok (.bipush 50, 2) := by decide +kernel
theorem dL_refuses_83 : decode cL_refuses 83 = .ok (.irem, 1) := by decide +kernel
theorem dL_refuses_84 : decode cL_refuses 84 = .ok (.iadd, 1) := by decide +kernel
theorem dL_refuses_85 : decode cL_refuses 85 = .ok (.iconst 0, 1) := by decide +kernel
theorem dL_refuses_86 : decode cL_refuses 86 = .ok (.iconst 0, 1) := by decide +kernel
theorem dL_refuses_87 : decode cL_refuses 87 = .ok (.invokestatic 170, 3) := by decide +kernel
theorem dL_refuses_90 : decode cL_refuses 90 = .ok (.ldc 15, 2) := by decide +kernel
theorem dL_refuses_92 : decode cL_refuses 92 = .ok (.if_icmp .ne 609, 3) := by decide +kernel
theorem dL_refuses_95 : decode cL_refuses 95 = .ok (.aload_n 0, 1) := by decide +kernel
theorem dL_refuses_96 : decode cL_refuses 96 = .ok (.iconst 3, 1) := by decide +kernel
theorem dL_refuses_97 : decode cL_refuses 97 = .ok (.iload_n 3, 1) := by decide +kernel
theorem dL_refuses_98 : decode cL_refuses 98 = .ok (.iconst 0, 1) := by decide +kernel
theorem dL_refuses_99 : decode cL_refuses 99 = .ok (.iconst 0, 1) := by decide +kernel
theorem dL_refuses_100 : decode cL_refuses 100 = .ok (.invokestatic 170, 3) := by decide +kernel
theorem dL_refuses_103 : decode cL_refuses 103 = .ok (.ldc 39, 2) := by decide +kernel
theorem dL_refuses_105 : decode cL_refuses 105 = .ok (.if_icmp .ne 596, 3) := by decide +kernel
theorem dL_refuses_108 : decode cL_refuses 108 = .ok (.aload_n 0, 1) := by decide +kernel
theorem dL_refuses_109 : decode cL_refuses 109 = .ok (.iconst 4, 1) := by decide +kernel
theorem dL_refuses_110 : decode cL_refuses 110 = .ok (.iload_n 3, 1) := by decide +kernel
theorem dL_refuses_111 : decode cL_refuses 111 = .ok (.iconst 0, 1) := by decide +kernel
theorem dL_refuses_112 : decode cL_refuses 112 = .ok (.iconst 0, 1) := by decide +kernel
theorem dL_refuses_113 : decode cL_refuses 113 = .ok (.invokestatic 170, 3) := by decide +kernel
theorem dL_refuses_116 : decode cL_refuses 116 = .ok (.ldc 39, 2) := by decide +kernel
theorem dL_refuses_118 : decode cL_refuses 118 = .ok (.if_icmp .ne 583, 3) := by decide +kernel
theorem dL_refuses_121 : decode cL_refuses 121 = .ok (.aload_n 0, 1) := by decide +kernel
theorem dL_refuses_122 : decode cL_refuses 122 = .ok (.iconst 5, 1) := by decide +kernel
theorem dL_refuses_123 : decode cL_refuses 123 = .ok (.iload_n 3, 1) := by decide +kernel
theorem dL_refuses_124 : decode cL_refuses 124 = .ok (.iconst 1, 1) := by decide +kernel
theorem dL_refuses_125 : decode cL_refuses 125 = .ok (.iadd, 1) := by decide +kernel
theorem dL_refuses_126 : decode cL_refuses 126 = .ok (.iconst 0, 1) := by decide +kernel
theorem dL_refuses_127 : decode cL_refuses 127 = .ok (.iconst 0, 1) := by decide +kernel
theorem dL_refuses_128 : decode cL_refuses 128 = .ok (.invokestatic 170, 3) := by decide +kernel
theorem dL_refuses_131 : decode cL_refuses 131 = .ok (.ldc 39, 2) := by decide +kernel
theorem dL_refuses_133 : decode cL_refuses 133 = .ok (.if_icmp .ne 568, 3) := by decide +kernel
theorem dL_refuses_136 : decode cL_refuses 136 = .ok (.aload_n 0, 1) := by decide +kernel
theorem dL_refuses_137 : decode cL_refuses 137 = .ok (.iconst 5, 1) := by decide +kernel
theorem dL_refuses_138 : decode cL_refuses 138 = .ok (.iconst (-1), 1) := by decide +kernel
theorem dL_refuses_139 : decode cL_refuses 139 = .ok (.iload_n 1, 1) := by decide +kernel
theorem dL_refuses_140 : decode cL_refuses 140 = .ok (.bipush 9, 2) := by decide +kernel
theorem dL_refuses_142 : decode cL_refuses 142 = .ok (.irem, 1) := by decide +kernel
theorem dL_refuses_143 : decode cL_refuses 143 = .ok (.isub, 1) := by decide +kernel
theorem dL_refuses_144 : decode cL_refuses 144 = .ok (.iconst 0, 1) := by decide +kernel
theorem dL_refuses_145 : decode cL_refuses 145 = .ok (.iconst 0, 1) := by decide +kernel
theorem dL_refuses_146 : decode cL_refuses 146 = .ok (.invokestatic 170, 3) := by decide +kernel
theorem dL_refuses_149 : decode cL_refuses 149 = .ok (.ldc 39, 2) := by decide +kernel
theorem dL_refuses_151 : decode cL_refuses 151 = .ok (.if_icmp .ne 550, 3) := by decide +kernel
theorem dL_refuses_154 : decode cL_refuses 154 = .ok (.aload_n 0, 1) := by decide +kernel
theorem dL_refuses_155 : decode cL_refuses 155 = .ok (.bipush 6, 2) := by decide +kernel
theorem dL_refuses_157 : decode cL_refuses 157 = .ok (.iload_n 3, 1) := by decide +kernel
theorem dL_refuses_158 : decode cL_refuses 158 = .ok (.iconst 1, 1) := by decide +kernel
theorem dL_refuses_159 : decode cL_refuses 159 = .ok (.iadd, 1) := by decide +kernel
theorem dL_refuses_160 : decode cL_refuses 160 = .ok (.iconst 0, 1) := by decide +kernel
theorem dL_refuses_161 : decode cL_refuses 161 = .ok (.iconst 0, 1) := by decide +kernel
theorem dL_refuses_162 : decode cL_refuses 162 = .ok (.invokestatic 170, 3) := by decide +kernel
theorem dL_refuses_165 : decode cL_refuses 165 = .ok (.ldc 39, 2) := by decide +kernel
theorem dL_refuses_167 : decode cL_refuses 167 = .ok (.if_icmp .ne 534, 3) := by decide +kernel
theorem dL_refuses_170 : decode cL_refuses 170 = .ok (.aload_n 0, 1) := by decide +kernel
theorem dL_refuses_171 : decode cL_refuses 171 = .ok (.bipush 7, 2) := by decide +kernel
theorem dL_refuses_173 : decode cL_refuses 173 = .ok (.iconst 2, 1) := by decide +kernel
theorem dL_refuses_174 : decode cL_refuses 174 = .ok (.iload_n 1, 1) := by decide +kernel
theorem dL_refuses_175 : decode cL_refuses 175 = .ok (.bipush 9, 2) := by decide +kernel
theorem dL_refuses_177 : decode cL_refuses 177 = .ok (.irem, 1) := by decide +kernel
theorem dL_refuses_178 : decode cL_refuses 178 = .ok (.iadd, 1) := by decide +kernel
theorem dL_refuses_179 : decode cL_refuses 179 = .ok (.iconst 0, 1) := by decide +kernel
theorem dL_refuses_180 : decode cL_refuses 180 = .ok (.iconst 0, 1) := by decide +kernel
theorem dL_refuses_181 : decode cL_refuses 181 = .ok (.invokestatic 170, 3) := by decide +kernel
theorem dL_refuses_184 : decode cL_refuses 184 = .ok (.ldc 15, 2) := by decide +kernel
theorem dL_refuses_186 : decode cL_refuses 186 = .ok (.if_icmp .ne 515, 3) := by decide +kernel
theorem dL_refuses_189 : decode cL_refuses 189 = .ok (.aload_n 0, 1) := by decide +kernel
theorem dL_refuses_190 : decode cL_refuses 190 = .ok (.bipush 8, 2) := by decide +kernel
theorem dL_refuses_192 : decode cL_refuses 192 = .ok (.iload_n 1, 1) := by decide +kernel
theorem dL_refuses_193 : decode cL_refuses 193 = .ok (.iconst 4, 1) := by decide +kernel
theorem dL_refuses_194 : decode cL_refuses 194 = .ok (.irem, 1) := by decide +kernel
theorem dL_refuses_195 : decode cL_refuses 195 = .ok (.iconst 1, 1) := by decide +kernel
theorem dL_refuses_196 : decode cL_refuses 196 = .ok (.iconst 0, 1) := by decide +kernel
theorem dL_refuses_197 : decode cL_refuses 197 = .ok (.invokestatic 170, 3) := by decide +kernel
theorem dL_refuses_200 : decode cL_refuses 200 = .ok (.ldc 15, 2) := by decide +kernel
theorem dL_refuses_202 : decode cL_refuses 202 = .ok (.if_icmp .ne 499, 3) := by decide +kernel
theorem dL_refuses_205 : decode cL_refuses 205 = .ok (.aload_n 0, 1) := by decide +kernel
theorem dL_refuses_206 : decode cL_refuses 206 = .ok (.bipush 8, 2) := by decide +kernel
theorem dL_refuses_208 : decode cL_refuses 208 = .ok (.bipush 33, 2) := by decide +kernel
theorem dL_refuses_210 : decode cL_refuses 210 = .ok (.iload_n 1, 1) := by decide +kernel
theorem dL_refuses_211 : decode cL_refuses 211 = .ok (.bipush 9, 2) := by decide +kernel
theorem dL_refuses_213 : decode cL_refuses 213 = .ok (.irem, 1) := by decide +kernel
theorem dL_refuses_214 : decode cL_refuses 214 = .ok (.iadd, 1) := by decide +kernel
theorem dL_refuses_215 : decode cL_refuses 215 = .ok (.iconst 1, 1) := by decide +kernel
theorem dL_refuses_216 : decode cL_refuses 216 = .ok (.iconst 0, 1) := by decide +kernel
theorem dL_refuses_217 : decode cL_refuses 217 = .ok (.invokestatic 170, 3) := by decide +kernel
theorem dL_refuses_220 : decode cL_refuses 220 = .ok (.ldc 15, 2) := by decide +kernel
theorem dL_refuses_222 : decode cL_refuses 222 = .ok (.if_icmp .ne 479, 3) := by decide +kernel
theorem dL_refuses_225 : decode cL_refuses 225 = .ok (.aload_n 0, 1) := by decide +kernel
theorem dL_refuses_226 : decode cL_refuses 226 = .ok (.bipush 8, 2) := by decide +kernel
theorem dL_refuses_228 : decode cL_refuses 228 = .ok (.iload_n 2, 1) := by decide +kernel
theorem dL_refuses_229 : decode cL_refuses 229 = .ok (.iload_n 2, 1) := by decide +kernel
theorem dL_refuses_230 : decode cL_refuses 230 = .ok (.iload_n 1, 1) := by decide +kernel
theorem dL_refuses_231 : decode cL_refuses 231 = .ok (.bipush 9, 2) := by decide +kernel
theorem dL_refuses_233 : decode cL_refuses 233 = .ok (.irem, 1) := by decide +kernel
theorem dL_refuses_234 : decode cL_refuses 234 = .ok (.iadd, 1) := by decide +kernel
theorem dL_refuses_235 : decode cL_refuses 235 = .ok (.iconst 0, 1) := by decide +kernel
theorem dL_refuses_236 : decode cL_refuses 236 = .ok (.invokestatic 170, 3) := by decide +kernel
theorem dL_refuses_239 : decode cL_refuses 239 = .ok (.ldc 15, 2) := by decide +kernel
theorem dL_refuses_241 : decode cL_refuses 241 = .ok (.if_icmp .ne 460, 3) := by decide +kernel
theorem dL_refuses_244 : decode cL_refuses 244 = .ok (.aload_n 0, 1) := by decide +kernel
theorem dL_refuses_245 : decode cL_refuses 245 = .ok (.bipush 8, 2) := by decide +kernel
theorem dL_refuses_247 : decode cL_refuses 247 = .ok (.iload_n 2, 1) := by decide +kernel
theorem dL_refuses_248 : decode cL_refuses 248 = .ok (.iconst 0, 1) := by decide +kernel
theorem dL_refuses_249 : decode cL_refuses 249 = .ok (.iconst 0, 1) := by decide +kernel
theorem dL_refuses_250 : decode cL_refuses 250 = .ok (.invokestatic 170, 3) := by decide +kernel
theorem dL_refuses_253 : decode cL_refuses 253 = .ok (.ldc 15, 2) := by decide +kernel
theorem dL_refuses_255 : decode cL_refuses 255 = .ok (.if_icmp .ne 446, 3) := by decide +kernel
theorem dL_refuses_258 : decode cL_refuses 258 = .ok (.aload_n 0, 1) := by decide +kernel
theorem dL_refuses_259 : decode cL_refuses 259 = .ok (.bipush 8, 2) := by decide +kernel
theorem dL_refuses_261 : decode cL_refuses 261 = .ok (.iload_n 2, 1) := by decide +kernel
theorem dL_refuses_262 : decode cL_refuses 262 = .ok (.iconst 1, 1) := by decide +kernel
theorem dL_refuses_263 : decode cL_refuses 263 = .ok (.iconst 5, 1) := by decide +kernel
theorem dL_refuses_264 : decode cL_refuses 264 = .ok (.iload_n 1, 1) := by decide +kernel
theorem dL_refuses_265 : decode cL_refuses 265 = .ok (.bipush 9, 2) := by decide +kernel
theorem dL_refuses_267 : decode cL_refuses 267 = .ok (.irem, 1) := by decide +kernel
theorem dL_refuses_268 : decode cL_refuses 268 = .ok (.iadd, 1) := by decide +kernel
theorem dL_refuses_269 : decode cL_refuses 269 = .ok (.invokestatic 170, 3) := by decide +kernel
theorem dL_refuses_272 : decode cL_refuses 272 = .ok (.ldc 15, 2) := by decide +kernel
theorem dL_refuses_274 : decode cL_refuses 274 = .ok (.if_icmp .ne 427, 3) := by decide +kernel
theorem dL_refuses_277 : decode cL_refuses 277 = .ok (.aload_n 0, 1) := by decide +kernel
theorem dL_refuses_278 : decode cL_refuses 278 = .ok (.bipush 8, 2) := by decide +kernel
theorem dL_refuses_280 : decode cL_refuses 280 = .ok (.iconst 4, 1) := by decide +kernel
theorem dL_refuses_281 : decode cL_refuses 281 = .ok (.iconst 2, 1) := by decide +kernel
theorem dL_refuses_282 : decode cL_refuses 282 = .ok (.iload_n 1, 1) := by decide +kernel
theorem dL_refuses_283 : decode cL_refuses 283 = .ok (.bipush 14, 2) := by decide +kernel
theorem dL_refuses_285 : decode cL_refuses 285 = .ok (.irem, 1) := by decide +kernel
theorem dL_refuses_286 : decode cL_refuses 286 = .ok (.imul, 1) := by decide +kernel
theorem dL_refuses_287 : decode cL_refuses 287 = .ok (.iadd, 1) := by decide +kernel
theorem dL_refuses_288 : decode cL_refuses 288 = .ok (.iconst 2, 1) := by decide +kernel
theorem dL_refuses_289 : decode cL_refuses 289 = .ok (.iconst 0, 1) := by decide +kernel
theorem dL_refuses_290 : decode cL_refuses 290 = .ok (.invokestatic 170, 3) := by decide +kernel
theorem dL_refuses_293 : decode cL_refuses 293 = .ok (.ldc 15, 2) := by decide +kernel
theorem dL_refuses_295 : decode cL_refuses 295 = .ok (.if_icmp .ne 406, 3) := by decide +kernel
theorem dL_refuses_298 : decode cL_refuses 298 = .ok (.aload_n 0, 1) := by decide +kernel
theorem dL_refuses_299 : decode cL_refuses 299 = .ok (.bipush 9, 2) := by decide +kernel
theorem dL_refuses_301 : decode cL_refuses 301 = .ok (.iload_n 3, 1) := by decide +kernel
theorem dL_refuses_302 : decode cL_refuses 302 = .ok (.iload 4, 2) := by decide +kernel
theorem dL_refuses_304 : decode cL_refuses 304 = .ok (.iconst 0, 1) := by decide +kernel
theorem dL_refuses_305 : decode cL_refuses 305 = .ok (.invokestatic 170, 3) := by decide +kernel
theorem dL_refuses_308 : decode cL_refuses 308 = .ok (.ldc 39, 2) := by decide +kernel
theorem dL_refuses_310 : decode cL_refuses 310 = .ok (.if_icmp .ne 391, 3) := by decide +kernel
theorem dL_refuses_313 : decode cL_refuses 313 = .ok (.aload_n 0, 1) := by decide +kernel
theorem dL_refuses_314 : decode cL_refuses 314 = .ok (.bipush 9, 2) := by decide +kernel
theorem dL_refuses_316 : decode cL_refuses 316 = .ok (.iload_n 1, 1) := by decide +kernel
theorem dL_refuses_317 : decode cL_refuses 317 = .ok (.iload_n 2, 1) := by decide +kernel
theorem dL_refuses_318 : decode cL_refuses 318 = .ok (.irem, 1) := by decide +kernel
theorem dL_refuses_319 : decode cL_refuses 319 = .ok (.iload 4, 2) := by decide +kernel
theorem dL_refuses_321 : decode cL_refuses 321 = .ok (.iconst 0, 1) := by decide +kernel
theorem dL_refuses_322 : decode cL_refuses 322 = .ok (.invokestatic 170, 3) := by decide +kernel
theorem dL_refuses_325 : decode cL_refuses 325 = .ok (.ldc 15, 2) := by decide +kernel
theorem dL_refuses_327 : decode cL_refuses 327 = .ok (.if_icmp .ne 374, 3) := by decide +kernel
theorem dL_refuses_330 : decode cL_refuses 330 = .ok (.aload_n 0, 1) := by decide +kernel
theorem dL_refuses_331 : decode cL_refuses 331 = .ok (.bipush 10, 2) := by decide +kernel
theorem dL_refuses_333 : decode cL_refuses 333 = .ok (.iload_n 3, 1) := by decide +kernel
theorem dL_refuses_334 : decode cL_refuses 334 = .ok (.iload 4, 2) := by decide +kernel
theorem dL_refuses_336 : decode cL_refuses 336 = .ok (.iconst 0, 1) := by decide +kernel
theorem dL_refuses_337 : decode cL_refuses 337 = .ok (.invokestatic 170, 3) := by decide +kernel
theorem dL_refuses_340 : decode cL_refuses 340 = .ok (.ldc 39, 2) := by decide +kernel
theorem dL_refuses_342 : decode cL_refuses 342 = .ok (.if_icmp .ne 359, 3) := by decide +kernel
theorem dL_refuses_345 : decode cL_refuses 345 = .ok (.aload_n 0, 1) := by decide +kernel
theorem dL_refuses_346 : decode cL_refuses 346 = .ok (.bipush 10, 2) := by decide +kernel
theorem dL_refuses_348 : decode cL_refuses 348 = .ok (.iload_n 1, 1) := by decide +kernel
theorem dL_refuses_349 : decode cL_refuses 349 = .ok (.iload_n 2, 1) := by decide +kernel
theorem dL_refuses_350 : decode cL_refuses 350 = .ok (.irem, 1) := by decide +kernel
theorem dL_refuses_351 : decode cL_refuses 351 = .ok (.iload_n 1, 1) := by decide +kernel
theorem dL_refuses_352 : decode cL_refuses 352 = .ok (.iconst 2, 1) := by decide +kernel
theorem dL_refuses_353 : decode cL_refuses 353 = .ok (.irem, 1) := by decide +kernel
theorem dL_refuses_354 : decode cL_refuses 354 = .ok (.ifCond .ne 7, 3) := by decide +kernel
theorem dL_refuses_357 : decode cL_refuses 357 = .ok (.iconst 0, 1) := by decide +kernel
theorem dL_refuses_358 : decode cL_refuses 358 = .ok (.goto 11, 3) := by decide +kernel
theorem dL_refuses_361 : decode cL_refuses 361 = .ok (.sipush 501, 3) := by decide +kernel
theorem dL_refuses_364 : decode cL_refuses 364 = .ok (.iload_n 1, 1) := by decide +kernel
theorem dL_refuses_365 : decode cL_refuses 365 = .ok (.bipush 9, 2) := by decide +kernel
theorem dL_refuses_367 : decode cL_refuses 367 = .ok (.irem, 1) := by decide +kernel
theorem dL_refuses_368 : decode cL_refuses 368 = .ok (.iadd, 1) := by decide +kernel
theorem dL_refuses_369 : decode cL_refuses 369 = .ok (.iconst 0, 1) := by decide +kernel
theorem dL_refuses_370 : decode cL_refuses 370 = .ok (.invokestatic 170, 3) := by decide +kernel
theorem dL_refuses_373 : decode cL_refuses 373 = .ok (.ldc 15, 2) := by decide +kernel
theorem dL_refuses_375 : decode cL_refuses 375 = .ok (.if_icmp .ne 326, 3) := by decide +kernel
theorem dL_refuses_378 : decode cL_refuses 378 = .ok (.aload_n 0, 1) := by decide +kernel
theorem dL_refuses_379 : decode cL_refuses 379 = .ok (.bipush 11, 2) := by decide +kernel
theorem dL_refuses_381 : decode cL_refuses 381 = .ok (.iload_n 1, 1) := by decide +kernel
theorem dL_refuses_382 : decode cL_refuses 382 = .ok (.iconst 2, 1) := by decide +kernel
theorem dL_refuses_383 : decode cL_refuses 383 = .ok (.irem, 1) := by decide +kernel
theorem dL_refuses_384 : decode cL_refuses 384 = .ok (.ifCond .ne 7, 3) := by decide +kernel
theorem dL_refuses_387 : decode cL_refuses 387 = .ok (.iconst 0, 1) := by decide +kernel
theorem dL_refuses_388 : decode cL_refuses 388 = .ok (.goto 10, 3) := by decide +kernel
theorem dL_refuses_391 : decode cL_refuses 391 = .ok (.bipush 51, 2) := by decide +kernel
theorem dL_refuses_393 : decode cL_refuses 393 = .ok (.iload_n 1, 1) := by decide +kernel
theorem dL_refuses_394 : decode cL_refuses 394 = .ok (.bipush 9, 2) := by decide +kernel
theorem dL_refuses_396 : decode cL_refuses 396 = .ok (.irem, 1) := by decide +kernel
theorem dL_refuses_397 : decode cL_refuses 397 = .ok (.iadd, 1) := by decide +kernel
theorem dL_refuses_398 : decode cL_refuses 398 = .ok (.iconst 0, 1) := by decide +kernel
theorem dL_refuses_399 : decode cL_refuses 399 = .ok (.iconst 0, 1) := by decide +kernel
theorem dL_refuses_400 : decode cL_refuses 400 = .ok (.invokestatic 170, 3) := by decide +kernel
theorem dL_refuses_403 : decode cL_refuses 403 = .ok (.ldc 15, 2) := by decide +kernel
theorem dL_refuses_405 : decode cL_refuses 405 = .ok (.if_icmp .ne 296, 3) := by decide +kernel
theorem dL_refuses_408 : decode cL_refuses 408 = .ok (.aload_n 0, 1) := by decide +kernel
theorem dL_refuses_409 : decode cL_refuses 409 = .ok (.bipush 12, 2) := by decide +kernel
theorem dL_refuses_411 : decode cL_refuses 411 = .ok (.iconst 0, 1) := by decide +kernel
theorem dL_refuses_412 : decode cL_refuses 412 = .ok (.iload_n 1, 1) := by decide +kernel
theorem dL_refuses_413 : decode cL_refuses 413 = .ok (.iconst 5, 1) := by decide +kernel
theorem dL_refuses_414 : decode cL_refuses 414 = .ok (.irem, 1) := by decide +kernel
theorem dL_refuses_415 : decode cL_refuses 415 = .ok (.iconst 0, 1) := by decide +kernel
theorem dL_refuses_416 : decode cL_refuses 416 = .ok (.invokestatic 170, 3) := by decide +kernel
theorem dL_refuses_419 : decode cL_refuses 419 = .ok (.ldc 15, 2) := by decide +kernel
theorem dL_refuses_421 : decode cL_refuses 421 = .ok (.if_icmp .ne 280, 3) := by decide +kernel
theorem dL_refuses_424 : decode cL_refuses 424 = .ok (.aload_n 0, 1) := by decide +kernel
theorem dL_refuses_425 : decode cL_refuses 425 = .ok (.bipush 12, 2) := by decide +kernel
theorem dL_refuses_427 : decode cL_refuses 427 = .ok (.iload_n 1, 1) := by decide +kernel
theorem dL_refuses_428 : decode cL_refuses 428 = .ok (.iconst 2, 1) := by decide +kernel
theorem dL_refuses_429 : decode cL_refuses 429 = .ok (.irem, 1) := by decide +kernel
theorem dL_refuses_430 : decode cL_refuses 430 = .ok (.iload 4, 2) := by decide +kernel
theorem dL_refuses_432 : decode cL_refuses 432 = .ok (.iconst 0, 1) := by decide +kernel
theorem dL_refuses_433 : decode cL_refuses 433 = .ok (.invokestatic 170, 3) := by decide +kernel
theorem dL_refuses_436 : decode cL_refuses 436 = .ok (.ldc 15, 2) := by decide +kernel
theorem dL_refuses_438 : decode cL_refuses 438 = .ok (.if_icmp .ne 263, 3) := by decide +kernel
theorem dL_refuses_441 : decode cL_refuses 441 = .ok (.aload_n 0, 1) := by decide +kernel
theorem dL_refuses_442 : decode cL_refuses 442 = .ok (.bipush 12, 2) := by decide +kernel
theorem dL_refuses_444 : decode cL_refuses 444 = .ok (.iconst 2, 1) := by decide +kernel
theorem dL_refuses_445 : decode cL_refuses 445 = .ok (.iload_n 1, 1) := by decide +kernel
theorem dL_refuses_446 : decode cL_refuses 446 = .ok (.bipush 9, 2) := by decide +kernel
theorem dL_refuses_448 : decode cL_refuses 448 = .ok (.irem, 1) := by decide +kernel
theorem dL_refuses_449 : decode cL_refuses 449 = .ok (.iadd, 1) := by decide +kernel
theorem dL_refuses_450 : decode cL_refuses 450 = .ok (.bipush 10, 2) := by decide +kernel
theorem dL_refuses_452 : decode cL_refuses 452 = .ok (.iconst 0, 1) := by decide +kernel
theorem dL_refuses_453 : decode cL_refuses 453 = .ok (.invokestatic 170, 3) := by decide +kernel
theorem dL_refuses_456 : decode cL_refuses 456 = .ok (.ldc 15, 2) := by decide +kernel
theorem dL_refuses_458 : decode cL_refuses 458 = .ok (.if_icmp .ne 243, 3) := by decide +kernel
theorem dL_refuses_461 : decode cL_refuses 461 = .ok (.aload_n 0, 1) := by decide +kernel
theorem dL_refuses_462 : decode cL_refuses 462 = .ok (.bipush 14, 2) := by decide +kernel
theorem dL_refuses_464 : decode cL_refuses 464 = .ok (.iload_n 3, 1) := by decide +kernel
theorem dL_refuses_465 : decode cL_refuses 465 = .ok (.iconst 0, 1) := by decide +kernel
theorem dL_refuses_466 : decode cL_refuses 466 = .ok (.iconst 0, 1) := by decide +kernel
theorem dL_refuses_467 : decode cL_refuses 467 = .ok (.invokestatic 170, 3) := by decide +kernel
theorem dL_refuses_470 : decode cL_refuses 470 = .ok (.ldc 39, 2) := by decide +kernel
theorem dL_refuses_472 : decode cL_refuses 472 = .ok (.if_icmp .ne 229, 3) := by decide +kernel
theorem dL_refuses_475 : decode cL_refuses 475 = .ok (.aload_n 0, 1) := by decide +kernel
theorem dL_refuses_476 : decode cL_refuses 476 = .ok (.bipush 16, 2) := by decide +kernel
theorem dL_refuses_478 : decode cL_refuses 478 = .ok (.iload_n 3, 1) := by decide +kernel
theorem dL_refuses_479 : decode cL_refuses 479 = .ok (.iconst 0, 1) := by decide +kernel
theorem dL_refuses_480 : decode cL_refuses 480 = .ok (.iconst 0, 1) := by decide +kernel
theorem dL_refuses_481 : decode cL_refuses 481 = .ok (.invokestatic 170, 3) := by decide +kernel
theorem dL_refuses_484 : decode cL_refuses 484 = .ok (.ldc 39, 2) := by decide +kernel
theorem dL_refuses_486 : decode cL_refuses 486 = .ok (.if_icmp .ne 215, 3) := by decide +kernel
theorem dL_refuses_489 : decode cL_refuses 489 = .ok (.aload_n 0, 1) := by decide +kernel
theorem dL_refuses_490 : decode cL_refuses 490 = .ok (.bipush 16, 2) := by decide +kernel
theorem dL_refuses_492 : decode cL_refuses 492 = .ok (.iload_n 1, 1) := by decide +kernel
theorem dL_refuses_493 : decode cL_refuses 493 = .ok (.iload_n 2, 1) := by decide +kernel
theorem dL_refuses_494 : decode cL_refuses 494 = .ok (.irem, 1) := by decide +kernel
theorem dL_refuses_495 : decode cL_refuses 495 = .ok (.bipush 51, 2) := by decide +kernel
theorem dL_refuses_497 : decode cL_refuses 497 = .ok (.iload_n 1, 1) := by decide +kernel
theorem dL_refuses_498 : decode cL_refuses 498 = .ok (.bipush 9, 2) := by decide +kernel
theorem dL_refuses_500 : decode cL_refuses 500 = .ok (.irem, 1) := by decide +kernel
theorem dL_refuses_501 : decode cL_refuses 501 = .ok (.iadd, 1) := by decide +kernel
theorem dL_refuses_502 : decode cL_refuses 502 = .ok (.iconst 1, 1) := by decide +kernel
theorem dL_refuses_503 : decode cL_refuses 503 = .ok (.invokestatic 170, 3) := by decide +kernel
theorem dL_refuses_506 : decode cL_refuses 506 = .ok (.ldc 15, 2) := by decide +kernel
theorem dL_refuses_508 : decode cL_refuses 508 = .ok (.if_icmp .ne 193, 3) := by decide +kernel
theorem dL_refuses_511 : decode cL_refuses 511 = .ok (.aload_n 0, 1) := by decide +kernel
theorem dL_refuses_512 : decode cL_refuses 512 = .ok (.bipush 16, 2) := by decide +kernel
theorem dL_refuses_514 : decode cL_refuses 514 = .ok (.iload_n 1, 1) := by decide +kernel
theorem dL_refuses_515 : decode cL_refuses 515 = .ok (.iload_n 2, 1) := by decide +kernel
theorem dL_refuses_516 : decode cL_refuses 516 = .ok (.irem, 1) := by decide +kernel
theorem dL_refuses_517 : decode cL_refuses 517 = .ok (.iconst 1, 1) := by decide +kernel
theorem dL_refuses_518 : decode cL_refuses 518 = .ok (.iconst 0, 1) := by decide +kernel
theorem dL_refuses_519 : decode cL_refuses 519 = .ok (.invokestatic 170, 3) := by decide +kernel
theorem dL_refuses_522 : decode cL_refuses 522 = .ok (.ldc 15, 2) := by decide +kernel
theorem dL_refuses_524 : decode cL_refuses 524 = .ok (.if_icmp .ne 177, 3) := by decide +kernel
theorem dL_refuses_527 : decode cL_refuses 527 = .ok (.aload_n 0, 1) := by decide +kernel
theorem dL_refuses_528 : decode cL_refuses 528 = .ok (.bipush 17, 2) := by decide +kernel
theorem dL_refuses_530 : decode cL_refuses 530 = .ok (.iload_n 3, 1) := by decide +kernel
theorem dL_refuses_531 : decode cL_refuses 531 = .ok (.iconst 0, 1) := by decide +kernel
theorem dL_refuses_532 : decode cL_refuses 532 = .ok (.iconst 0, 1) := by decide +kernel
theorem dL_refuses_533 : decode cL_refuses 533 = .ok (.invokestatic 170, 3) := by decide +kernel
theorem dL_refuses_536 : decode cL_refuses 536 = .ok (.ldc 39, 2) := by decide +kernel
theorem dL_refuses_538 : decode cL_refuses 538 = .ok (.if_icmp .ne 163, 3) := by decide +kernel
theorem dL_refuses_541 : decode cL_refuses 541 = .ok (.aload_n 0, 1) := by decide +kernel
theorem dL_refuses_542 : decode cL_refuses 542 = .ok (.bipush 17, 2) := by decide +kernel
theorem dL_refuses_544 : decode cL_refuses 544 = .ok (.iload_n 1, 1) := by decide +kernel
theorem dL_refuses_545 : decode cL_refuses 545 = .ok (.iload_n 2, 1) := by decide +kernel
theorem dL_refuses_546 : decode cL_refuses 546 = .ok (.irem, 1) := by decide +kernel
theorem dL_refuses_547 : decode cL_refuses 547 = .ok (.sipush 501, 3) := by decide +kernel
theorem dL_refuses_550 : decode cL_refuses 550 = .ok (.iload_n 1, 1) := by decide +kernel
theorem dL_refuses_551 : decode cL_refuses 551 = .ok (.bipush 9, 2) := by decide +kernel
theorem dL_refuses_553 : decode cL_refuses 553 = .ok (.irem, 1) := by decide +kernel
theorem dL_refuses_554 : decode cL_refuses 554 = .ok (.iadd, 1) := by decide +kernel
theorem dL_refuses_555 : decode cL_refuses 555 = .ok (.iconst 0, 1) := by decide +kernel
theorem dL_refuses_556 : decode cL_refuses 556 = .ok (.invokestatic 170, 3) := by decide +kernel
theorem dL_refuses_559 : decode cL_refuses 559 = .ok (.ldc 15, 2) := by decide +kernel
theorem dL_refuses_561 : decode cL_refuses 561 = .ok (.if_icmp .ne 140, 3) := by decide +kernel
theorem dL_refuses_564 : decode cL_refuses 564 = .ok (.aload_n 0, 1) := by decide +kernel
theorem dL_refuses_565 : decode cL_refuses 565 = .ok (.bipush 18, 2) := by decide +kernel
theorem dL_refuses_567 : decode cL_refuses 567 = .ok (.iload_n 3, 1) := by decide +kernel
theorem dL_refuses_568 : decode cL_refuses 568 = .ok (.iconst 0, 1) := by decide +kernel
theorem dL_refuses_569 : decode cL_refuses 569 = .ok (.iconst 0, 1) := by decide +kernel
theorem dL_refuses_570 : decode cL_refuses 570 = .ok (.invokestatic 170, 3) := by decide +kernel
theorem dL_refuses_573 : decode cL_refuses 573 = .ok (.ldc 39, 2) := by decide +kernel
theorem dL_refuses_575 : decode cL_refuses 575 = .ok (.if_icmp .ne 126, 3) := by decide +kernel
theorem dL_refuses_578 : decode cL_refuses 578 = .ok (.aload_n 0, 1) := by decide +kernel
theorem dL_refuses_579 : decode cL_refuses 579 = .ok (.bipush 19, 2) := by decide +kernel
theorem dL_refuses_581 : decode cL_refuses 581 = .ok (.iload_n 3, 1) := by decide +kernel
theorem dL_refuses_582 : decode cL_refuses 582 = .ok (.iconst (-1), 1) := by decide +kernel
theorem dL_refuses_583 : decode cL_refuses 583 = .ok (.iconst 0, 1) := by decide +kernel
theorem dL_refuses_584 : decode cL_refuses 584 = .ok (.invokestatic 170, 3) := by decide +kernel
theorem dL_refuses_587 : decode cL_refuses 587 = .ok (.ldc 39, 2) := by decide +kernel
theorem dL_refuses_589 : decode cL_refuses 589 = .ok (.if_icmp .ne 112, 3) := by decide +kernel
theorem dL_refuses_592 : decode cL_refuses 592 = .ok (.aload_n 0, 1) := by decide +kernel
theorem dL_refuses_593 : decode cL_refuses 593 = .ok (.bipush 19, 2) := by decide +kernel
theorem dL_refuses_595 : decode cL_refuses 595 = .ok (.iload_n 1, 1) := by decide +kernel
theorem dL_refuses_596 : decode cL_refuses 596 = .ok (.iload_n 2, 1) := by decide +kernel
theorem dL_refuses_597 : decode cL_refuses 597 = .ok (.irem, 1) := by decide +kernel
theorem dL_refuses_598 : decode cL_refuses 598 = .ok (.iconst (-1), 1) := by decide +kernel
theorem dL_refuses_599 : decode cL_refuses 599 = .ok (.iload_n 1, 1) := by decide +kernel
theorem dL_refuses_600 : decode cL_refuses 600 = .ok (.bipush 9, 2) := by decide +kernel
theorem dL_refuses_602 : decode cL_refuses 602 = .ok (.irem, 1) := by decide +kernel
theorem dL_refuses_603 : decode cL_refuses 603 = .ok (.isub, 1) := by decide +kernel
theorem dL_refuses_604 : decode cL_refuses 604 = .ok (.iconst 0, 1) := by decide +kernel
theorem dL_refuses_605 : decode cL_refuses 605 = .ok (.invokestatic 170, 3) := by decide +kernel
theorem dL_refuses_608 : decode cL_refuses 608 = .ok (.ldc 15, 2) := by decide +kernel
theorem dL_refuses_610 : decode cL_refuses 610 = .ok (.if_icmp .ne 91, 3) := by decide +kernel
theorem dL_refuses_613 : decode cL_refuses 613 = .ok (.aload_n 0, 1) := by decide +kernel
theorem dL_refuses_614 : decode cL_refuses 614 = .ok (.bipush 20, 2) := by decide +kernel
theorem dL_refuses_616 : decode cL_refuses 616 = .ok (.iconst 2, 1) := by decide +kernel
theorem dL_refuses_617 : decode cL_refuses 617 = .ok (.iload_n 1, 1) := by decide +kernel
theorem dL_refuses_618 : decode cL_refuses 618 = .ok (.bipush 50, 2) := by decide +kernel
theorem dL_refuses_620 : decode cL_refuses 620 = .ok (.irem, 1) := by decide +kernel
theorem dL_refuses_621 : decode cL_refuses 621 = .ok (.iadd, 1) := by decide +kernel
theorem dL_refuses_622 : decode cL_refuses 622 = .ok (.iconst 0, 1) := by decide +kernel
theorem dL_refuses_623 : decode cL_refuses 623 = .ok (.iconst 0, 1) := by decide +kernel
theorem dL_refuses_624 : decode cL_refuses 624 = .ok (.invokestatic 170, 3) := by decide +kernel
theorem dL_refuses_627 : decode cL_refuses 627 = .ok (.ldc 39, 2) := by decide +kernel
theorem dL_refuses_629 : decode cL_refuses 629 = .ok (.if_icmp .ne 72, 3) := by decide +kernel
theorem dL_refuses_632 : decode cL_refuses 632 = .ok (.aload_n 0, 1) := by decide +kernel
theorem dL_refuses_633 : decode cL_refuses 633 = .ok (.bipush 21, 2) := by decide +kernel
theorem dL_refuses_635 : decode cL_refuses 635 = .ok (.iconst (-1), 1) := by decide +kernel
theorem dL_refuses_636 : decode cL_refuses 636 = .ok (.iload_n 1, 1) := by decide +kernel
theorem dL_refuses_637 : decode cL_refuses 637 = .ok (.bipush 9, 2) := by decide +kernel
theorem dL_refuses_639 : decode cL_refuses 639 = .ok (.irem, 1) := by decide +kernel
theorem dL_refuses_640 : decode cL_refuses 640 = .ok (.isub, 1) := by decide +kernel
theorem dL_refuses_641 : decode cL_refuses 641 = .ok (.iconst 0, 1) := by decide +kernel
theorem dL_refuses_642 : decode cL_refuses 642 = .ok (.iconst 0, 1) := by decide +kernel
theorem dL_refuses_643 : decode cL_refuses 643 = .ok (.invokestatic 170, 3) := by decide +kernel
theorem dL_refuses_646 : decode cL_refuses 646 = .ok (.ldc 39, 2) := by decide +kernel
theorem dL_refuses_648 : decode cL_refuses 648 = .ok (.if_icmp .ne 53, 3) := by decide +kernel
theorem dL_refuses_651 : decode cL_refuses 651 = .ok (.aload_n 0, 1) := by decide +kernel
theorem dL_refuses_652 : decode cL_refuses 652 = .ok (.iconst 0, 1) := by decide +kernel
theorem dL_refuses_653 : decode cL_refuses 653 = .ok (.lconst 0, 1) := by decide +kernel
theorem dL_refuses_654 : decode cL_refuses 654 = .ok (.invokestatic 174, 3) := by decide +kernel
theorem dL_refuses_657 : decode cL_refuses 657 = .ok (.ldc 15, 2) := by decide +kernel
theorem dL_refuses_659 : decode cL_refuses 659 = .ok (.if_icmp .ne 42, 3) := by decide +kernel
theorem dL_refuses_662 : decode cL_refuses 662 = .ok (.aload_n 0, 1) := by decide +kernel
theorem dL_refuses_663 : decode cL_refuses 663 = .ok (.iconst 1, 1) := by decide +kernel
theorem dL_refuses_664 : decode cL_refuses 664 = .ok (.ldc2_w 178, 3) := by decide +kernel
theorem dL_refuses_667 : decode cL_refuses 667 = .ok (.iload_n 1, 1) := by decide +kernel
theorem dL_refuses_668 : decode cL_refuses 668 = .ok (.i2l, 1) := by decide +kernel
theorem dL_refuses_669 : decode cL_refuses 669 = .ok (.ladd, 1) := by decide +kernel
theorem dL_refuses_670 : decode cL_refuses 670 = .ok (.invokestatic 174, 3) := by decide +kernel
theorem dL_refuses_673 : decode cL_refuses 673 = .ok (.ldc 15, 2) := by decide +kernel
theorem dL_refuses_675 : decode cL_refuses 675 = .ok (.if_icmp .ne 26, 3) := by decide +kernel
theorem dL_refuses_678 : decode cL_refuses 678 = .ok (.aload_n 0, 1) := by decide +kernel
theorem dL_refuses_679 : decode cL_refuses 679 = .ok (.iload_n 1, 1) := by decide +kernel
theorem dL_refuses_680 : decode cL_refuses 680 = .ok (.i2l, 1) := by decide +kernel
theorem dL_refuses_681 : decode cL_refuses 681 = .ok (.sipush 301, 3) := by decide +kernel
theorem dL_refuses_684 : decode cL_refuses 684 = .ok (.iload_n 1, 1) := by decide +kernel
theorem dL_refuses_685 : decode cL_refuses 685 = .ok (.bipush 9, 2) := by decide +kernel
theorem dL_refuses_687 : decode cL_refuses 687 = .ok (.irem, 1) := by decide +kernel
theorem dL_refuses_688 : decode cL_refuses 688 = .ok (.iadd, 1) := by decide +kernel
theorem dL_refuses_689 : decode cL_refuses 689 = .ok (.invokestatic 180, 3) := by decide +kernel
theorem dL_refuses_692 : decode cL_refuses 692 = .ok (.ldc 15, 2) := by decide +kernel
theorem dL_refuses_694 : decode cL_refuses 694 = .ok (.if_icmp .ne 7, 3) := by decide +kernel
theorem dL_refuses_697 : decode cL_refuses 697 = .ok (.iconst 1, 1) := by decide +kernel
theorem dL_refuses_698 : decode cL_refuses 698 = .ok (.goto 4, 3) := by decide +kernel
theorem dL_refuses_701 : decode cL_refuses 701 = .ok (.iconst 0, 1) := by decide +kernel
theorem dL_refuses_702 : decode cL_refuses 702 = .ok (.ireturn, 1) := by decide +kernel
set_option maxRecDepth 20000 in
theorem ggL_holds_L_call : GoodIn wsL_holds wsL_call := goodIn_ca (goodIn_ca (goodIn_ca (goodIn_r _ [5, 6, 7, 4, 8, 9, 10, 11, 12, 13, 14, 15, 16, 17, 18, 19, 20, 21, 22, 23, 24, 25, 26, 27, 28, 29, 30, 31, 32, 33, 34, 35, 36, 37, 38, 39, 40, 41, 42, 43, 44, 45, 46, 47, 48, 49, 50, 51, 52, 53, 54, 55, 56, 57, 58, 59, 60, 61, 62, 63, 64, 65, 66, 67, 68, 69, 70, 71, 72, 73, 74, 75, 76, 77, 78, 79, 80, 81, 82, 83, 84, 85, 86, 87, 88, 89, 90, 91, 92, 93, 94, 95, 96, 97, 98, 99, 100, 101, 102, 103, 104, 105, 106, 107, 108, 109, 110, 111, 112, 113, 114, 115, 116, 117, 118, 119, 120, 121, 122, 123, 124, 125, 126, 127, 128, 129, 130, 131, 132, 133, 134, 135, 136, 137, 138, 139, 140, 141, 142, 143, 144, 145, 146, 147, 148, 149, 150, 151, 152, 153, 154, 155, 156, 157, 158, 159, 160, 161, 162, 163, 164, 165, 166, 167, 168, 169, 170, 171, 172, 173, 174, 175, 176, 177, 178, 179, 180, 181, 182, 183, 184, 185, 186, 187, 188, 189, 190, 191, 192, 193, 194, 195, 196, 197, 198, 199, 200, 201, 202, 203, 204, 205, 206, 207, 208, 209, 210, 211, 212, 213, 214, 215, 216, 217, 218, 219, 220, 221, 222, 223, 224, 225, 226, 227, 228, 229, 230, 231, 232, 233, 234, 235, 236, 237, 238, 239, 240, 241, 242, 243, 244, 245, 246, 247, 248, 249, 250, 251, 252, 253, 254, 255, 256, 257, 258, 259, 260, 261, 262, 263, 264, 265, 266, 267, 268, 269, 270, 271, 272, 273, 274, 275, 276, 277, 278, 279, 280, 281, 282, 283, 284, 285, 286, 287, 288, 289, 290, 291, 292, 293, 294, 295, 296, 297, 298, 299, 300, 301, 302, 303, 304, 305, 306, 307, 308, 309, 310, 311, 312, 313, 314, 315, 316, 317, 318, 319, 320, 321, 322, 323, 324, 325, 326, 327, 328, 329, 330, 331, 332, 333, 334, 335, 336, 337, 338, 339, 340, 341, 342, 343, 344, 345, 346, 347, 348, 349, 350, 351, 352, 353, 354, 355, 356, 357, 358, 359, 360, 361, 362, 363, 364, 365, 366, 367, 368, 369, 370, 371, 372, 373, 374, 375, 376, 377, 378, 379, 380, 381, 382, 383, 384, 385, 386, 387, 388, 389, 390, 391, 392, 393, 394, 395, 396, 397, 398, 399, 400, 401, 402, 403, 404, 405, 406, 407, 408, 409, 410, 411, 412, 413, 414, 415, 416, 417, 418, 419, 420, 421, 422, 423, 424, 425, 426, 427, 428, 429, 430, 431, 432, 433, 434, 435, 436, 437, 438, 439, 440, 441, 442, 443, 444, 445, 446, 447, 448, 449, 450, 451, 452, 453, 454, 455, 456, 457, 458, 459, 460, 461, 462, 463, 464, 465, 466, 467, 468, 469, 470, 471, 472, 473, 474, 475, 476, 477, 478, 479, 480, 481, 482, 483, 484, 485, 486, 487, 488] (by decide +kernel) (by decide +kernel)) (goodIn_sub (fun _ h => List.mem_cons_of_mem _ (List.mem_append_left _ (List.mem_append_left _ (List.mem_append_right _ h)))) (by decide +kernel))) (goodIn_sub (fun _ h => List.mem_cons_of_mem _ (List.mem_append_left _ (List.mem_append_right _ h))) (by decide +kernel))) (goodIn_sub (fun _ h => List.mem_cons_of_mem _ (List.mem_append_right _ h)) (by decide +kernel))
set_option maxRecDepth 20000 in
theorem gL_holds_L_call : GoodIn wsL_holds (va_wsS RL 170 yL_call wsL_call) := goodIn_app (goodIn_of _ (by decide +kernel)) ggL_holds_L_call
theorem dL_holds_0 : decode cL_holds 0 = .ok (.aload_n 0, 1) := by decide +kernel
theorem dL_holds_1 : decode cL_holds 1 = .ok (.iconst 2, 1) := by decide +kernel
theorem dL_holds_2 : decode cL_holds 2 = .ok (.iconst 0, 1) := by decide +kernel
theorem dL_holds_3 : decode cL_holds 3 = .ok (.iconst 0, 1) := by decide +kernel
theorem dL_holds_4 : decode cL_holds 4 = .ok (.iconst 0, 1) := by decide +kernel
theorem dL_holds_5 : decode cL_holds 5 = .ok (.invokestatic 170, 3) := by decide +kernel
theorem dL_holds_8 : decode cL_holds 8 = .ok (.istore_n 2, 1) := by decide +kernel
theorem dL_holds_9 : decode cL_holds 9 = .ok (.aload_n 0, 1) := by decide +kernel
theorem dL_holds_10 : decode cL_holds 10 = .ok (.iconst 2, 1) := by decide +kernel
theorem dL_holds_11 : decode cL_holds 11 = .ok (.iconst 2, 1) := by decide +kernel
theorem dL_holds_12 : decode cL_holds 12 = .ok (.iconst 0, 1) := by decide +kernel
theorem dL_holds_13 : decode cL_holds 13 = .ok (.iconst 0, 1) := by decide +kernel
theorem dL_holds_14 : decode cL_holds 14 = .ok (.invokestatic 170, 3) := by decide +kernel
theorem dL_holds_17 : decode cL_holds 17 = .ok (.istore_n 3, 1) := by decide +kernel
theorem dL_holds_18 : decode cL_holds 18 = .ok (.iconst 0, 1) := by decide +kernel
theorem dL_holds_19 : decode cL_holds 19 = .ok (.istore 4, 2) := by decide +kernel
theorem dL_holds_21 : decode cL_holds 21 = .ok (.ldc 184, 2) := by decide +kernel
theorem dL_holds_23 : decode cL_holds 23 = .ok (.istore 5, 2) := by decide +kernel
theorem dL_holds_25 : decode cL_holds 25 = .ok (.aload_n 0, 1) := by decide +kernel
theorem dL_holds_26 : decode cL_holds 26 = .ok (.iconst 2, 1) := by decide +kernel
theorem dL_holds_27 : decode cL_holds 27 = .ok (.bipush 9, 2) := by decide +kernel
theorem dL_holds_29 : decode cL_holds 29 = .ok (.iconst 0, 1) := by decide +kernel
theorem dL_holds_30 : decode cL_holds 30 = .ok (.iconst 0, 1) := by decide +kernel
theorem dL_holds_31 : decode cL_holds 31 = .ok (.invokestatic 170, 3) := by decide +kernel
theorem dL_holds_34 : decode cL_holds 34 = .ok (.iconst 1, 1) := by decide +kernel
theorem dL_holds_35 : decode cL_holds 35 = .ok (.if_icmp .ne 7, 3) := by decide +kernel
theorem dL_holds_38 : decode cL_holds 38 = .ok (.iconst 1, 1) := by decide +kernel
theorem dL_holds_39 : decode cL_holds 39 = .ok (.goto 4, 3) := by decide +kernel
theorem dL_holds_42 : decode cL_holds 42 = .ok (.iconst 0, 1) := by decide +kernel
theorem dL_holds_43 : decode cL_holds 43 = .ok (.istore 6, 2) := by decide +kernel
theorem dL_holds_45 : decode cL_holds 45 = .ok (.iload_n 2, 1) := by decide +kernel
theorem dL_holds_46 : decode cL_holds 46 = .ok (.iconst 4, 1) := by decide +kernel
theorem dL_holds_47 : decode cL_holds 47 = .ok (.if_icmp .lt 123, 3) := by decide +kernel
theorem dL_holds_50 : decode cL_holds 50 = .ok (.iload_n 2, 1) := by decide +kernel
theorem dL_holds_51 : decode cL_holds 51 = .ok (.bipush 32, 2) := by decide +kernel
theorem dL_holds_53 : decode cL_holds 53 = .ok (.if_icmp .gt 117, 3) := by decide +kernel
theorem dL_holds_56 : decode cL_holds 56 = .ok (.iload_n 3, 1) := by decide +kernel
theorem dL_holds_57 : decode cL_holds 57 = .ok (.ifCond .lt 113, 3) := by decide +kernel
theorem dL_holds_60 : decode cL_holds 60 = .ok (.iload_n 3, 1) := by decide +kernel
theorem dL_holds_61 : decode cL_holds 61 = .ok (.iload_n 2, 1) := by decide +kernel
theorem dL_holds_62 : decode cL_holds 62 = .ok (.if_icmp .gt 108, 3) := by decide +kernel
theorem dL_holds_65 : decode cL_holds 65 = .ok (.aload_n 0, 1) := by decide +kernel
theorem dL_holds_66 : decode cL_holds 66 = .ok (.iconst 2, 1) := by decide +kernel
theorem dL_holds_67 : decode cL_holds 67 = .ok (.iconst 1, 1) := by decide +kernel
theorem dL_holds_68 : decode cL_holds 68 = .ok (.iconst 0, 1) := by decide +kernel
theorem dL_holds_69 : decode cL_holds 69 = .ok (.iconst 0, 1) := by decide +kernel
theorem dL_holds_70 : decode cL_holds 70 = .ok (.invokestatic 170, 3) := by decide +kernel
theorem dL_holds_73 : decode cL_holds 73 = .ok (.iload_n 2, 1) := by decide +kernel
theorem dL_holds_74 : decode cL_holds 74 = .ok (.if_icmp .ge 96, 3) := by decide +kernel
theorem dL_holds_77 : decode cL_holds 77 = .ok (.aload_n 0, 1) := by decide +kernel
theorem dL_holds_78 : decode cL_holds 78 = .ok (.iconst 5, 1) := by decide +kernel
theorem dL_holds_79 : decode cL_holds 79 = .ok (.iload_n 3, 1) := by decide +kernel
theorem dL_holds_80 : decode cL_holds 80 = .ok (.iconst 0, 1) := by decide +kernel
theorem dL_holds_81 : decode cL_holds 81 = .ok (.iconst 0, 1) := by decide +kernel
theorem dL_holds_82 : decode cL_holds 82 = .ok (.invokestatic 170, 3) := by decide +kernel
theorem dL_holds_85 : decode cL_holds 85 = .ok (.iconst (-1), 1) := by decide +kernel
theorem dL_holds_86 : decode cL_holds 86 = .ok (.if_icmp .ne 84, 3) := by decide +kernel
theorem dL_holds_89 : decode cL_holds 89 = .ok (.aload_n 0, 1) := by decide +kernel
theorem dL_holds_90 : decode cL_holds 90 = .ok (.iconst 2, 1) := by decide +kernel
theorem dL_holds_91 : decode cL_holds 91 = .ok (.iconst 3, 1) := by decide +kernel
theorem dL_holds_92 : decode cL_holds 92 = .ok (.iconst 0, 1) := by decide +kernel
theorem dL_holds_93 : decode cL_holds 93 = .ok (.iconst 0, 1) := by decide +kernel
theorem dL_holds_94 : decode cL_holds 94 = .ok (.invokestatic 170, 3) := by decide +kernel
theorem dL_holds_97 : decode cL_holds 97 = .ok (.aload_n 0, 1) := by decide +kernel
theorem dL_holds_98 : decode cL_holds 98 = .ok (.iconst 2, 1) := by decide +kernel
theorem dL_holds_99 : decode cL_holds 99 = .ok (.bipush 10, 2) := by decide +kernel
theorem dL_holds_101 : decode cL_holds 101 = .ok (.iconst 0, 1) := by decide +kernel
theorem dL_holds_102 : decode cL_holds 102 = .ok (.iconst 0, 1) := by decide +kernel
theorem dL_holds_103 : decode cL_holds 103 = .ok (.invokestatic 170, 3) := by decide +kernel
theorem dL_holds_106 : decode cL_holds 106 = .ok (.iadd, 1) := by decide +kernel
theorem dL_holds_107 : decode cL_holds 107 = .ok (.iconst 4, 1) := by decide +kernel
theorem dL_holds_108 : decode cL_holds 108 = .ok (.if_icmp .gt 62, 3) := by decide +kernel
theorem dL_holds_111 : decode cL_holds 111 = .ok (.aload_n 0, 1) := by decide +kernel
theorem dL_holds_112 : decode cL_holds 112 = .ok (.iconst 2, 1) := by decide +kernel
theorem dL_holds_113 : decode cL_holds 113 = .ok (.bipush 11, 2) := by decide +kernel
theorem dL_holds_115 : decode cL_holds 115 = .ok (.iconst 0, 1) := by decide +kernel
theorem dL_holds_116 : decode cL_holds 116 = .ok (.iconst 0, 1) := by decide +kernel
theorem dL_holds_117 : decode cL_holds 117 = .ok (.invokestatic 170, 3) := by decide +kernel
theorem dL_holds_120 : decode cL_holds 120 = .ok (.aload_n 0, 1) := by decide +kernel
theorem dL_holds_121 : decode cL_holds 121 = .ok (.iconst 2, 1) := by decide +kernel
theorem dL_holds_122 : decode cL_holds 122 = .ok (.iconst 4, 1) := by decide +kernel
theorem dL_holds_123 : decode cL_holds 123 = .ok (.iconst 0, 1) := by decide +kernel
theorem dL_holds_124 : decode cL_holds 124 = .ok (.iconst 0, 1) := by decide +kernel
theorem dL_holds_125 : decode cL_holds 125 = .ok (.invokestatic 170, 3) := by decide +kernel
theorem dL_holds_128 : decode cL_holds 128 = .ok (.aload_n 0, 1) := by decide +kernel
theorem dL_holds_129 : decode cL_holds 129 = .ok (.iconst 2, 1) := by decide +kernel
theorem dL_holds_130 : decode cL_holds 130 = .ok (.iconst 5, 1) := by decide +kernel
theorem dL_holds_131 : decode cL_holds 131 = .ok (.iconst 0, 1) := by decide +kernel
theorem dL_holds_132 : decode cL_holds 132 = .ok (.iconst 0, 1) := by decide +kernel
theorem dL_holds_133 : decode cL_holds 133 = .ok (.invokestatic 170, 3) := by decide +kernel
theorem dL_holds_136 : decode cL_holds 136 = .ok (.iadd, 1) := by decide +kernel
theorem dL_holds_137 : decode cL_holds 137 = .ok (.aload_n 0, 1) := by decide +kernel
theorem dL_holds_138 : decode cL_holds 138 = .ok (.iconst 2, 1) := by decide +kernel
theorem dL_holds_139 : decode cL_holds 139 = .ok (.bipush 10, 2) := by decide +kernel
theorem dL_holds_141 : decode cL_holds 141 = .ok (.iconst 0, 1) := by decide +kernel
theorem dL_holds_142 : decode cL_holds 142 = .ok (.iconst 0, 1) := by decide +kernel
theorem dL_holds_143 : decode cL_holds 143 = .ok (.invokestatic 170, 3) := by decide +kernel
theorem dL_holds_146 : decode cL_holds 146 = .ok (.iadd, 1) := by decide +kernel
theorem dL_holds_147 : decode cL_holds 147 = .ok (.if_icmp .ne 23, 3) := by decide +kernel
theorem dL_holds_150 : decode cL_holds 150 = .ok (.iload 6, 2) := by decide +kernel
theorem dL_holds_152 : decode cL_holds 152 = .ok (.ifCond .eq 14, 3) := by decide +kernel
theorem dL_holds_155 : decode cL_holds 155 = .ok (.aload_n 0, 1) := by decide +kernel
theorem dL_holds_156 : decode cL_holds 156 = .ok (.iconst 2, 1) := by decide +kernel
theorem dL_holds_157 : decode cL_holds 157 = .ok (.iconst 3, 1) := by decide +kernel
theorem dL_holds_158 : decode cL_holds 158 = .ok (.iconst 0, 1) := by decide +kernel
theorem dL_holds_159 : decode cL_holds 159 = .ok (.iconst 0, 1) := by decide +kernel
theorem dL_holds_160 : decode cL_holds 160 = .ok (.invokestatic 170, 3) := by decide +kernel
theorem dL_holds_163 : decode cL_holds 163 = .ok (.ifCond .ne 7, 3) := by decide +kernel
theorem dL_holds_166 : decode cL_holds 166 = .ok (.iconst 1, 1) := by decide +kernel
theorem dL_holds_167 : decode cL_holds 167 = .ok (.goto 4, 3) := by decide +kernel
theorem dL_holds_170 : decode cL_holds 170 = .ok (.iconst 0, 1) := by decide +kernel
theorem dL_holds_171 : decode cL_holds 171 = .ok (.istore 7, 2) := by decide +kernel
theorem dL_holds_173 : decode cL_holds 173 = .ok (.iconst 0, 1) := by decide +kernel
theorem dL_holds_174 : decode cL_holds 174 = .ok (.istore 8, 2) := by decide +kernel
theorem dL_holds_176 : decode cL_holds 176 = .ok (.iload 8, 2) := by decide +kernel
theorem dL_holds_178 : decode cL_holds 178 = .ok (.iload_n 2, 1) := by decide +kernel
theorem dL_holds_179 : decode cL_holds 179 = .ok (.if_icmp .gt 121, 3) := by decide +kernel
theorem dL_holds_182 : decode cL_holds 182 = .ok (.iload 7, 2) := by decide +kernel
theorem dL_holds_184 : decode cL_holds 184 = .ok (.ifCond .eq 116, 3) := by decide +kernel
theorem dL_holds_187 : decode cL_holds 187 = .ok (.aload_n 0, 1) := by decide +kernel
theorem dL_holds_188 : decode cL_holds 188 = .ok (.iconst 5, 1) := by decide +kernel
theorem dL_holds_189 : decode cL_holds 189 = .ok (.iload 8, 2) := by decide +kernel
theorem dL_holds_191 : decode cL_holds 191 = .ok (.iconst 0, 1) := by decide +kernel
theorem dL_holds_192 : decode cL_holds 192 = .ok (.iconst 0, 1) := by decide +kernel
theorem dL_holds_193 : decode cL_holds 193 = .ok (.invokestatic 170, 3) := by decide +kernel
theorem dL_holds_196 : decode cL_holds 196 = .ok (.istore 9, 2) := by decide +kernel
theorem dL_holds_198 : decode cL_holds 198 = .ok (.aload_n 0, 1) := by decide +kernel
theorem dL_holds_199 : decode cL_holds 199 = .ok (.bipush 6, 2) := by decide +kernel
theorem dL_holds_201 : decode cL_holds 201 = .ok (.iload 8, 2) := by decide +kernel
theorem dL_holds_203 : decode cL_holds 203 = .ok (.iconst 0, 1) := by decide +kernel
theorem dL_holds_204 : decode cL_holds 204 = .ok (.iconst 0, 1) := by decide +kernel
theorem dL_holds_205 : decode cL_holds 205 = .ok (.invokestatic 170, 3) := by decide +kernel
theorem dL_holds_208 : decode cL_holds 208 = .ok (.istore 10, 2) := by decide +kernel
theorem dL_holds_210 : decode cL_holds 210 = .ok (.iload 10, 2) := by decide +kernel
theorem dL_holds_212 : decode cL_holds 212 = .ok (.iload 4, 2) := by decide +kernel
theorem dL_holds_214 : decode cL_holds 214 = .ok (.if_icmp .le 8, 3) := by decide +kernel
theorem dL_holds_217 : decode cL_holds 217 = .ok (.iload 10, 2) := by decide +kernel
theorem dL_holds_219 : decode cL_holds 219 = .ok (.goto 5, 3) := by decide +kernel
theorem dL_holds_222 : decode cL_holds 222 = .ok (.iload 4, 2) := by decide +kernel
theorem dL_holds_224 : decode cL_holds 224 = .ok (.istore 4, 2) := by decide +kernel
theorem dL_holds_226 : decode cL_holds 226 = .ok (.iload 10, 2) := by decide +kernel
theorem dL_holds_228 : decode cL_holds 228 = .ok (.iload 5, 2) := by decide +kernel
theorem dL_holds_230 : decode cL_holds 230 = .ok (.if_icmp .ge 8, 3) := by decide +kernel
theorem dL_holds_233 : decode cL_holds 233 = .ok (.iload 10, 2) := by decide +kernel
theorem dL_holds_235 : decode cL_holds 235 = .ok (.goto 5, 3) := by decide +kernel
theorem dL_holds_238 : decode cL_holds 238 = .ok (.iload 5, 2) := by decide +kernel
theorem dL_holds_240 : decode cL_holds 240 = .ok (.istore 5, 2) := by decide +kernel
theorem dL_holds_242 : decode cL_holds 242 = .ok (.iload 10, 2) := by decide +kernel
theorem dL_holds_244 : decode cL_holds 244 = .ok (.ifCond .lt 47, 3) := by decide +kernel
theorem dL_holds_247 : decode cL_holds 247 = .ok (.iload 8, 2) := by decide +kernel
theorem dL_holds_249 : decode cL_holds 249 = .ok (.iload_n 3, 1) := by decide +kernel
theorem dL_holds_250 : decode cL_holds 250 = .ok (.if_icmp .ne 12, 3) := by decide +kernel
theorem dL_holds_253 : decode cL_holds 253 = .ok (.iload 9, 2) := by decide +kernel
theorem dL_holds_255 : decode cL_holds 255 = .ok (.iconst (-1), 1) := by decide +kernel
theorem dL_holds_256 : decode cL_holds 256 = .ok (.if_icmp .ne 35, 3) := by decide +kernel
theorem dL_holds_259 : decode cL_holds 259 = .ok (.goto 28, 3) := by decide +kernel
theorem dL_holds_262 : decode cL_holds 262 = .ok (.iload 9, 2) := by decide +kernel
theorem dL_holds_264 : decode cL_holds 264 = .ok (.ifCond .lt 27, 3) := by decide +kernel
theorem dL_holds_267 : decode cL_holds 267 = .ok (.iload 9, 2) := by decide +kernel
theorem dL_holds_269 : decode cL_holds 269 = .ok (.iload_n 2, 1) := by decide +kernel
theorem dL_holds_270 : decode cL_holds 270 = .ok (.if_icmp .ge 21, 3) := by decide +kernel
theorem dL_holds_273 : decode cL_holds 273 = .ok (.aload_n 0, 1) := by decide +kernel
theorem dL_holds_274 : decode cL_holds 274 = .ok (.iconst 4, 1) := by decide +kernel
theorem dL_holds_275 : decode cL_holds 275 = .ok (.iload 9, 2) := by decide +kernel
theorem dL_holds_277 : decode cL_holds 277 = .ok (.iconst 0, 1) := by decide +kernel
theorem dL_holds_278 : decode cL_holds 278 = .ok (.iconst 0, 1) := by decide +kernel
theorem dL_holds_279 : decode cL_holds 279 = .ok (.invokestatic 170, 3) := by decide +kernel
theorem dL_holds_282 : decode cL_holds 282 = .ok (.iload 8, 2) := by decide +kernel
theorem dL_holds_284 : decode cL_holds 284 = .ok (.if_icmp .ne 7, 3) := by decide +kernel
theorem dL_holds_287 : decode cL_holds 287 = .ok (.iconst 1, 1) := by decide +kernel
theorem dL_holds_288 : decode cL_holds 288 = .ok (.goto 4, 3) := by decide +kernel
theorem dL_holds_291 : decode cL_holds 291 = .ok (.iconst 0, 1) := by decide +kernel
theorem dL_holds_292 : decode cL_holds 292 = .ok (.istore 7, 2) := by decide +kernel
theorem dL_holds_294 : decode cL_holds 294 = .ok (.iinc 8 1, 3) := by decide +kernel
theorem dL_holds_297 : decode cL_holds 297 = .ok (.goto (-121), 3) := by decide +kernel
theorem dL_holds_300 : decode cL_holds 300 = .ok (.iload_n 1, 1) := by decide +kernel
theorem dL_holds_301 : decode cL_holds 301 = .ok (.iload_n 2, 1) := by decide +kernel
theorem dL_holds_302 : decode cL_holds 302 = .ok (.irem, 1) := by decide +kernel
theorem dL_holds_303 : decode cL_holds 303 = .ok (.istore 8, 2) := by decide +kernel
theorem dL_holds_305 : decode cL_holds 305 = .ok (.aload_n 0, 1) := by decide +kernel
theorem dL_holds_306 : decode cL_holds 306 = .ok (.bipush 18, 2) := by decide +kernel
theorem dL_holds_308 : decode cL_holds 308 = .ok (.iload 8, 2) := by decide +kernel
theorem dL_holds_310 : decode cL_holds 310 = .ok (.iconst 0, 1) := by decide +kernel
theorem dL_holds_311 : decode cL_holds 311 = .ok (.iconst 0, 1) := by decide +kernel
theorem dL_holds_312 : decode cL_holds 312 = .ok (.invokestatic 170, 3) := by decide +kernel
theorem dL_holds_315 : decode cL_holds 315 = .ok (.istore 9, 2) := by decide +kernel
theorem dL_holds_317 : decode cL_holds 317 = .ok (.aload_n 0, 1) := by decide +kernel
theorem dL_holds_318 : decode cL_holds 318 = .ok (.iconst 4, 1) := by decide +kernel
theorem dL_holds_319 : decode cL_holds 319 = .ok (.iload 8, 2) := by decide +kernel
theorem dL_holds_321 : decode cL_holds 321 = .ok (.iconst 0, 1) := by decide +kernel
theorem dL_holds_322 : decode cL_holds 322 = .ok (.iconst 0, 1) := by decide +kernel
theorem dL_holds_323 : decode cL_holds 323 = .ok (.invokestatic 170, 3) := by decide +kernel
theorem dL_holds_326 : decode cL_holds 326 = .ok (.istore 10, 2) := by decide +kernel
theorem dL_holds_328 : decode cL_holds 328 = .ok (.iload 7, 2) := by decide +kernel
theorem dL_holds_330 : decode cL_holds 330 = .ok (.ifCond .eq 120, 3) := by decide +kernel
theorem dL_holds_333 : decode cL_holds 333 = .ok (.aload_n 0, 1) := by decide +kernel
theorem dL_holds_334 : decode cL_holds 334 = .ok (.iconst 2, 1) := by decide +kernel
theorem dL_holds_335 : decode cL_holds 335 = .ok (.bipush 6, 2) := by decide +kernel
theorem dL_holds_337 : decode cL_holds 337 = .ok (.iconst 0, 1) := by decide +kernel
theorem dL_holds_338 : decode cL_holds 338 = .ok (.iconst 0, 1) := by decide +kernel
theorem dL_holds_339 : decode cL_holds 339 = .ok (.invokestatic 170, 3) := by decide +kernel
theorem dL_holds_342 : decode cL_holds 342 = .ok (.iload 4, 2) := by decide +kernel
theorem dL_holds_344 : decode cL_holds 344 = .ok (.if_icmp .ne 106, 3) := by decide +kernel
theorem dL_holds_347 : decode cL_holds 347 = .ok (.aload_n 0, 1) := by decide +kernel
theorem dL_holds_348 : decode cL_holds 348 = .ok (.iconst 2, 1) := by decide +kernel
theorem dL_holds_349 : decode cL_holds 349 = .ok (.bipush 7, 2) := by decide +kernel
theorem dL_holds_351 : decode cL_holds 351 = .ok (.iconst 0, 1) := by decide +kernel
theorem dL_holds_352 : decode cL_holds 352 = .ok (.iconst 0, 1) := by decide +kernel
theorem dL_holds_353 : decode cL_holds 353 = .ok (.invokestatic 170, 3) := by decide +kernel
theorem dL_holds_356 : decode cL_holds 356 = .ok (.iload 5, 2) := by decide +kernel
theorem dL_holds_358 : decode cL_holds 358 = .ok (.if_icmp .ne 92, 3) := by decide +kernel
theorem dL_holds_361 : decode cL_holds 361 = .ok (.iload 9, 2) := by decide +kernel
theorem dL_holds_363 : decode cL_holds 363 = .ok (.ifCond .le 87, 3) := by decide +kernel
theorem dL_holds_366 : decode cL_holds 366 = .ok (.iload 9, 2) := by decide +kernel
theorem dL_holds_368 : decode cL_holds 368 = .ok (.iload_n 2, 1) := by decide +kernel
theorem dL_holds_369 : decode cL_holds 369 = .ok (.if_icmp .gt 81, 3) := by decide +kernel
theorem dL_holds_372 : decode cL_holds 372 = .ok (.aload_n 0, 1) := by decide +kernel
theorem dL_holds_373 : decode cL_holds 373 = .ok (.bipush 19, 2) := by decide +kernel
theorem dL_holds_375 : decode cL_holds 375 = .ok (.iload 8, 2) := by decide +kernel
theorem dL_holds_377 : decode cL_holds 377 = .ok (.iconst 0, 1) := by decide +kernel
theorem dL_holds_378 : decode cL_holds 378 = .ok (.iconst 0, 1) := by decide +kernel
theorem dL_holds_379 : decode cL_holds 379 = .ok (.invokestatic 170, 3) := by decide +kernel
theorem dL_holds_382 : decode cL_holds 382 = .ok (.iload 10, 2) := by decide +kernel
theorem dL_holds_384 : decode cL_holds 384 = .ok (.if_icmp .ne 66, 3) := by decide +kernel
theorem dL_holds_387 : decode cL_holds 387 = .ok (.aload_n 0, 1) := by decide +kernel
theorem dL_holds_388 : decode cL_holds 388 = .ok (.bipush 19, 2) := by decide +kernel
theorem dL_holds_390 : decode cL_holds 390 = .ok (.iload 8, 2) := by decide +kernel
theorem dL_holds_392 : decode cL_holds 392 = .ok (.iload 9, 2) := by decide +kernel
theorem dL_holds_394 : decode cL_holds 394 = .ok (.iconst 1, 1) := by decide +kernel
theorem dL_holds_395 : decode cL_holds 395 = .ok (.isub, 1) := by decide +kernel
theorem dL_holds_396 : decode cL_holds 396 = .ok (.iconst 0, 1) := by decide +kernel
theorem dL_holds_397 : decode cL_holds 397 = .ok (.invokestatic 170, 3) := by decide +kernel
theorem dL_holds_400 : decode cL_holds 400 = .ok (.iload 10, 2) := by decide +kernel
theorem dL_holds_402 : decode cL_holds 402 = .ok (.if_icmp .ne 48, 3) := by decide +kernel
theorem dL_holds_405 : decode cL_holds 405 = .ok (.aload_n 0, 1) := by decide +kernel
theorem dL_holds_406 : decode cL_holds 406 = .ok (.bipush 19, 2) := by decide +kernel
theorem dL_holds_408 : decode cL_holds 408 = .ok (.iload 8, 2) := by decide +kernel
theorem dL_holds_410 : decode cL_holds 410 = .ok (.iload 9, 2) := by decide +kernel
theorem dL_holds_412 : decode cL_holds 412 = .ok (.iconst 0, 1) := by decide +kernel
theorem dL_holds_413 : decode cL_holds 413 = .ok (.invokestatic 170, 3) := by decide +kernel
theorem dL_holds_416 : decode cL_holds 416 = .ok (.iload 10, 2) := by decide +kernel
theorem dL_holds_418 : decode cL_holds 418 = .ok (.iconst 1, 1) := by decide +kernel
theorem dL_holds_419 : decode cL_holds 419 = .ok (.iadd, 1) := by decide +kernel
theorem dL_holds_420 : decode cL_holds 420 = .ok (.iload_n 2, 1) := by decide +kernel
theorem dL_holds_421 : decode cL_holds 421 = .ok (.iconst 1, 1) := by decide +kernel
theorem dL_holds_422 : decode cL_holds 422 = .ok (.iadd, 1) := by decide +kernel
theorem dL_holds_423 : decode cL_holds 423 = .ok (.irem, 1) := by decide +kernel
theorem dL_holds_424 : decode cL_holds 424 = .ok (.if_icmp .ne 26, 3) := by decide +kernel
theorem dL_holds_427 : decode cL_holds 427 = .ok (.aload_n 0, 1) := by decide +kernel
theorem dL_holds_428 : decode cL_holds 428 = .ok (.bipush 19, 2) := by decide +kernel
theorem dL_holds_430 : decode cL_holds 430 = .ok (.iload 8, 2) := by decide +kernel
theorem dL_holds_432 : decode cL_holds 432 = .ok (.iload_n 2, 1) := by decide +kernel
theorem dL_holds_433 : decode cL_holds 433 = .ok (.iload_n 2, 1) := by decide +kernel
theorem dL_holds_434 : decode cL_holds 434 = .ok (.iconst 1, 1) := by decide +kernel
theorem dL_holds_435 : decode cL_holds 435 = .ok (.iadd, 1) := by decide +kernel
theorem dL_holds_436 : decode cL_holds 436 = .ok (.imul, 1) := by decide +kernel
theorem dL_holds_437 : decode cL_holds 437 = .ok (.iconst 0, 1) := by decide +kernel
theorem dL_holds_438 : decode cL_holds 438 = .ok (.invokestatic 170, 3) := by decide +kernel
theorem dL_holds_441 : decode cL_holds 441 = .ok (.iload 10, 2) := by decide +kernel
theorem dL_holds_443 : decode cL_holds 443 = .ok (.if_icmp .ne 7, 3) := by decide +kernel
theorem dL_holds_446 : decode cL_holds 446 = .ok (.iconst 1, 1) := by decide +kernel
theorem dL_holds_447 : decode cL_holds 447 = .ok (.goto 4, 3) := by decide +kernel
theorem dL_holds_450 : decode cL_holds 450 = .ok (.iconst 0, 1) := by decide +kernel
theorem dL_holds_451 : decode cL_holds 451 = .ok (.istore 7, 2) := by decide +kernel
theorem dL_holds_453 : decode cL_holds 453 = .ok (.iconst 1, 1) := by decide +kernel
theorem dL_holds_454 : decode cL_holds 454 = .ok (.iload_n 1, 1) := by decide +kernel
theorem dL_holds_455 : decode cL_holds 455 = .ok (.bipush 32, 2) := by decide +kernel
theorem dL_holds_457 : decode cL_holds 457 = .ok (.idiv, 1) := by decide +kernel
theorem dL_holds_458 : decode cL_holds 458 = .ok (.bipush 60, 2) := by decide +kernel
theorem dL_holds_460 : decode cL_holds 460 = .ok (.irem, 1) := by decide +kernel
theorem dL_holds_461 : decode cL_holds 461 = .ok (.iadd, 1) := by decide +kernel
theorem dL_holds_462 : decode cL_holds 462 = .ok (.istore 11, 2) := by decide +kernel
theorem dL_holds_464 : decode cL_holds 464 = .ok (.aload_n 0, 1) := by decide +kernel
theorem dL_holds_465 : decode cL_holds 465 = .ok (.bipush 17, 2) := by decide +kernel
theorem dL_holds_467 : decode cL_holds 467 = .ok (.iload 8, 2) := by decide +kernel
theorem dL_holds_469 : decode cL_holds 469 = .ok (.iload 11, 2) := by decide +kernel
theorem dL_holds_471 : decode cL_holds 471 = .ok (.iconst 0, 1) := by decide +kernel
theorem dL_holds_472 : decode cL_holds 472 = .ok (.invokestatic 170, 3) := by decide +kernel
theorem dL_holds_475 : decode cL_holds 475 = .ok (.istore 12, 2) := by decide +kernel
theorem dL_holds_477 : decode cL_holds 477 = .ok (.iconst 1, 1) := by decide +kernel
theorem dL_holds_478 : decode cL_holds 478 = .ok (.iload_n 1, 1) := by decide +kernel
theorem dL_holds_479 : decode cL_holds 479 = .ok (.sipush 1920, 3) := by decide +kernel
theorem dL_holds_482 : decode cL_holds 482 = .ok (.idiv, 1) := by decide +kernel
theorem dL_holds_483 : decode cL_holds 483 = .ok (.bipush 50, 2) := by decide +kernel
theorem dL_holds_485 : decode cL_holds 485 = .ok (.irem, 1) := by decide +kernel
theorem dL_holds_486 : decode cL_holds 486 = .ok (.iadd, 1) := by decide +kernel
theorem dL_holds_487 : decode cL_holds 487 = .ok (.istore 13, 2) := by decide +kernel
theorem dL_holds_489 : decode cL_holds 489 = .ok (.iload 7, 2) := by decide +kernel
theorem dL_holds_491 : decode cL_holds 491 = .ok (.ifCond .eq 113, 3) := by decide +kernel
theorem dL_holds_494 : decode cL_holds 494 = .ok (.aload_n 0, 1) := by decide +kernel
theorem dL_holds_495 : decode cL_holds 495 = .ok (.bipush 16, 2) := by decide +kernel
theorem dL_holds_497 : decode cL_holds 497 = .ok (.iload 8, 2) := by decide +kernel
theorem dL_holds_499 : decode cL_holds 499 = .ok (.iload 12, 2) := by decide +kernel
theorem dL_holds_501 : decode cL_holds 501 = .ok (.iload 11, 2) := by decide +kernel
theorem dL_holds_503 : decode cL_holds 503 = .ok (.invokestatic 170, 3) := by decide +kernel
theorem dL_holds_506 : decode cL_holds 506 = .ok (.aload_n 0, 1) := by decide +kernel
theorem dL_holds_507 : decode cL_holds 507 = .ok (.bipush 16, 2) := by decide +kernel
theorem dL_holds_509 : decode cL_holds 509 = .ok (.iload 8, 2) := by decide +kernel
theorem dL_holds_511 : decode cL_holds 511 = .ok (.iload 13, 2) := by decide +kernel
theorem dL_holds_513 : decode cL_holds 513 = .ok (.iload 11, 2) := by decide +kernel
theorem dL_holds_515 : decode cL_holds 515 = .ok (.invokestatic 170, 3) := by decide +kernel
theorem dL_holds_518 : decode cL_holds 518 = .ok (.if_icmp .gt 86, 3) := by decide +kernel
theorem dL_holds_521 : decode cL_holds 521 = .ok (.iload 13, 2) := by decide +kernel
theorem dL_holds_523 : decode cL_holds 523 = .ok (.iload 12, 2) := by decide +kernel
theorem dL_holds_525 : decode cL_holds 525 = .ok (.if_icmp .le 30, 3) := by decide +kernel
theorem dL_holds_528 : decode cL_holds 528 = .ok (.aload_n 0, 1) := by decide +kernel
theorem dL_holds_529 : decode cL_holds 529 = .ok (.bipush 16, 2) := by decide +kernel
theorem dL_holds_531 : decode cL_holds 531 = .ok (.iload 8, 2) := by decide +kernel
theorem dL_holds_533 : decode cL_holds 533 = .ok (.iload 13, 2) := by decide +kernel
theorem dL_holds_535 : decode cL_holds 535 = .ok (.iload 11, 2) := by decide +kernel
theorem dL_holds_537 : decode cL_holds 537 = .ok (.invokestatic 170, 3) := by decide +kernel
theorem dL_holds_540 : decode cL_holds 540 = .ok (.aload_n 0, 1) := by decide +kernel
theorem dL_holds_541 : decode cL_holds 541 = .ok (.bipush 16, 2) := by decide +kernel
theorem dL_holds_543 : decode cL_holds 543 = .ok (.iload 8, 2) := by decide +kernel
theorem dL_holds_545 : decode cL_holds 545 = .ok (.iload 12, 2) := by decide +kernel
theorem dL_holds_547 : decode cL_holds 547 = .ok (.iload 11, 2) := by decide +kernel
theorem dL_holds_549 : decode cL_holds 549 = .ok (.invokestatic 170, 3) := by decide +kernel
theorem dL_holds_552 : decode cL_holds 552 = .ok (.if_icmp .le 52, 3) := by decide +kernel
theorem dL_holds_555 : decode cL_holds 555 = .ok (.aload_n 0, 1) := by decide +kernel
theorem dL_holds_556 : decode cL_holds 556 = .ok (.bipush 14, 2) := by decide +kernel
theorem dL_holds_558 : decode cL_holds 558 = .ok (.iload 8, 2) := by decide +kernel
theorem dL_holds_560 : decode cL_holds 560 = .ok (.iconst 0, 1) := by decide +kernel
theorem dL_holds_561 : decode cL_holds 561 = .ok (.iconst 0, 1) := by decide +kernel
theorem dL_holds_562 : decode cL_holds 562 = .ok (.invokestatic 170, 3) := by decide +kernel
theorem dL_holds_565 : decode cL_holds 565 = .ok (.ifCond .ne 7, 3) := by decide +kernel
theorem dL_holds_568 : decode cL_holds 568 = .ok (.iconst 1, 1) := by decide +kernel
theorem dL_holds_569 : decode cL_holds 569 = .ok (.goto 4, 3) := by decide +kernel
theorem dL_holds_572 : decode cL_holds 572 = .ok (.iconst 0, 1) := by decide +kernel
theorem dL_holds_573 : decode cL_holds 573 = .ok (.iload 6, 2) := by decide +kernel
theorem dL_holds_575 : decode cL_holds 575 = .ok (.if_icmp .ne 29, 3) := by decide +kernel
theorem dL_holds_578 : decode cL_holds 578 = .ok (.aload_n 0, 1) := by decide +kernel
theorem dL_holds_579 : decode cL_holds 579 = .ok (.bipush 15, 2) := by decide +kernel
theorem dL_holds_581 : decode cL_holds 581 = .ok (.iconst 0, 1) := by decide +kernel
theorem dL_holds_582 : decode cL_holds 582 = .ok (.iconst 0, 1) := by decide +kernel
theorem dL_holds_583 : decode cL_holds 583 = .ok (.iconst 0, 1) := by decide +kernel
theorem dL_holds_584 : decode cL_holds 584 = .ok (.invokestatic 170, 3) := by decide +kernel
theorem dL_holds_587 : decode cL_holds 587 = .ok (.ifCond .ne 7, 3) := by decide +kernel
theorem dL_holds_590 : decode cL_holds 590 = .ok (.iconst 1, 1) := by decide +kernel
theorem dL_holds_591 : decode cL_holds 591 = .ok (.goto 4, 3) := by decide +kernel
theorem dL_holds_594 : decode cL_holds 594 = .ok (.iconst 0, 1) := by decide +kernel
theorem dL_holds_595 : decode cL_holds 595 = .ok (.iload 6, 2) := by decide +kernel
theorem dL_holds_597 : decode cL_holds 597 = .ok (.if_icmp .ne 7, 3) := by decide +kernel
theorem dL_holds_600 : decode cL_holds 600 = .ok (.iconst 1, 1) := by decide +kernel
theorem dL_holds_601 : decode cL_holds 601 = .ok (.goto 4, 3) := by decide +kernel
theorem dL_holds_604 : decode cL_holds 604 = .ok (.iconst 0, 1) := by decide +kernel
theorem dL_holds_605 : decode cL_holds 605 = .ok (.ireturn, 1) := by decide +kernel
set_option maxRecDepth 20000 in
theorem ggL_act_L_call : GoodIn wsL_act wsL_call := goodIn_ca (goodIn_ca (goodIn_ca (goodIn_r _ [4, 5, 6, 3, 7, 8, 9, 10, 11, 12, 13, 14, 15, 16, 17, 18, 19, 20, 21, 22, 23, 24, 25, 26, 27, 28, 29, 30, 31, 32, 33, 34, 35, 36, 37, 38, 39, 40, 41, 42, 43, 44, 45, 46, 47, 48, 49, 50, 51, 52, 53, 54, 55, 56, 57, 58, 59, 60, 61, 62, 63, 64, 65, 66, 67, 68, 69, 70, 71, 72, 73, 74, 75, 76, 77, 78, 79, 80, 81, 82, 83, 84, 85, 86, 87, 88, 89, 90, 91, 92, 93, 94, 95, 96, 97, 98, 99, 100, 101, 102, 103, 104, 105, 106, 107, 108, 109, 110, 111, 112, 113, 114, 115, 116, 117, 118, 119, 120, 121, 122, 123, 124, 125, 126, 127, 128, 129, 130, 131, 132, 133, 134, 135, 136, 137, 138, 139, 140, 141, 142, 143, 144, 145, 146, 147, 148, 149, 150, 151, 152, 153, 154, 155, 156, 157, 158, 159, 160, 161, 162, 163, 164, 165, 166, 167, 168, 169, 170, 171, 172, 173, 174, 175, 176, 177, 178, 179, 180, 181, 182, 183, 184, 185, 186, 187, 188, 189, 190, 191, 192, 193, 194, 195, 196, 197, 198, 199, 200, 201, 202, 203, 204, 205, 206, 207, 208, 209, 210, 211, 212, 213, 214, 215, 216, 217, 218, 219, 220, 221, 222, 223, 224, 225, 226, 227, 228, 229, 230, 231, 232, 233, 234, 235, 236, 237, 238, 239, 240, 241, 242, 243, 244, 245, 246, 247, 248, 249, 250, 251, 252, 253, 254, 255, 256, 257, 258, 259, 260, 261, 262, 263, 264, 265, 266, 267, 268, 269, 270, 271, 272, 273, 274, 275, 276, 277, 278, 279, 280, 281, 282, 283, 284, 285, 286, 287, 288, 289, 290, 291, 292, 293, 294, 295, 296, 297, 298, 299, 300, 301, 302, 303, 304, 305, 306, 307, 308, 309, 310, 311, 312, 313, 314, 315, 316, 317, 318, 319, 320, 321, 322, 323, 324, 325, 326, 327, 328, 329, 330, 331, 332, 333, 334, 335, 336, 337, 338, 339, 340, 341, 342, 343, 344, 345, 346, 347, 348, 349, 350, 351, 352, 353, 354, 355, 356, 357, 358, 359, 360, 361, 362, 363, 364, 365, 366, 367, 368, 369, 370, 371, 372, 373, 374, 375, 376, 377, 378, 379, 380, 381, 382, 383, 384, 385, 386, 387, 388, 389, 390, 391, 392, 393, 394, 395, 396, 397, 398, 399, 400, 401, 402, 403, 404, 405, 406, 407, 408, 409, 410, 411, 412, 413, 414, 415, 416, 417, 418, 419, 420, 421, 422, 423, 424, 425, 426, 427, 428, 429, 430, 431, 432, 433, 434, 435, 436, 437, 438, 439, 440, 441, 442, 443, 444, 445, 446, 447, 448, 449, 450, 451, 452, 453, 454, 455, 456, 457, 458, 459, 460, 475, 476, 477, 478, 479, 480, 481, 482, 483, 484, 485, 486, 487, 488, 489, 490, 491, 492, 493, 494, 495, 496, 497, 498, 499, 500, 501] (by decide +kernel) (by decide +kernel)) (goodIn_sub (fun _ h => List.mem_cons_of_mem _ (List.mem_append_left _ (List.mem_append_left _ (List.mem_append_right _ h)))) (by decide +kernel))) (goodIn_sub (fun _ h => List.mem_cons_of_mem _ (List.mem_append_left _ (List.mem_append_right _ h))) (by decide +kernel))) (goodIn_sub (fun _ h => List.mem_cons_of_mem _ (List.mem_append_right _ h)) (by decide +kernel))
set_option maxRecDepth 20000 in
theorem gL_act_L_call : GoodIn wsL_act (va_wsS RL 170 yL_call wsL_call) := goodIn_app (goodIn_of _ (by decide +kernel)) ggL_act_L_call
set_option maxRecDepth 20000 in
theorem ggL_act_L_doSimulate : GoodIn wsL_act wsL_doSimulate := goodIn_ca (goodIn_r _ [463, 8, 10, 464, 465, 466, 15, 467, 17, 18, 43, 377, 468, 339, 169, 170, 83, 171, 91, 378, 296, 297, 298, 92, 93, 94, 95, 96, 97, 98, 99, 100, 101, 85, 86, 102, 299, 300, 301, 302, 103, 469, 470, 471, 472, 473, 474, 168, 128, 129, 130, 131, 122, 123, 124, 125, 132, 133, 134, 135, 136, 137, 138, 139, 140, 141, 142, 143, 144, 145, 146, 147, 398, 188, 189, 190, 191, 192, 193, 194, 475, 476, 477, 478, 479, 487, 488, 489, 490, 491, 492, 493, 494, 495, 496, 497, 498, 499, 500, 501] (by decide +kernel) (by decide +kernel)) (goodIn_sub (fun _ h => List.mem_cons_of_mem _ (List.mem_append_left _ (List.mem_append_left _ (List.mem_append_right _ h)))) (by decide +kernel))
set_option maxRecDepth 20000 in
theorem gL_act_L_doSimulate : GoodIn wsL_act (va_wsS RL 180 yL_doSimulate wsL_doSimulate) := goodIn_app (goodIn_of _ (by decide +kernel)) ggL_act_L_doSimulate
theorem dL_act_0 : decode cL_act 0 = .ok (.aload_n 0, 1) := by decide +kernel
theorem dL_act_1 : decode cL_act 1 = .ok (.iconst 2, 1) := by decide +kernel
theorem dL_act_2 : decode cL_act 2 = .ok (.iconst 0, 1) := by decide +kernel
theorem dL_act_3 : decode cL_act 3 = .ok (.iconst 0, 1) := by decide +kernel
theorem dL_act_4 : decode cL_act 4 = .ok (.iconst 0, 1) := by decide +kernel
theorem dL_act_5 : decode cL_act 5 = .ok (.invokestatic 170, 3) := by decide +kernel
theorem dL_act_8 : decode cL_act 8 = .ok (.istore_n 2, 1) := by decide +kernel
theorem dL_act_9 : decode cL_act 9 = .ok (.iload_n 1, 1) := by decide +kernel
theorem dL_act_10 : decode cL_act 10 = .ok (.bipush 16, 2) := by decide +kernel
theorem dL_act_12 : decode cL_act 12 = .ok (.idiv, 1) := by decide +kernel
theorem dL_act_13 : decode cL_act 13 = .ok (.iload_n 2, 1) := by decide +kernel
theorem dL_act_14 : decode cL_act 14 = .ok (.irem, 1) := by decide +kernel
theorem dL_act_15 : decode cL_act 15 = .ok (.istore_n 3, 1) := by decide +kernel
theorem dL_act_16 : decode cL_act 16 = .ok (.iload_n 1, 1) := by decide +kernel
theorem dL_act_17 : decode cL_act 17 = .ok (.bipush 16, 2) := by decide +kernel
theorem dL_act_19 : decode cL_act 19 = .ok (.irem, 1) := by decide +kernel
theorem dL_act_20 : decode cL_act 20 = .ok (.tableswitch 215 0 12 #[68, 68, 68, 68, 86, 86, 86, 105, 105, 122, 143, 185, 200], 68) := by decide +kernel
theorem dL_act_88 : decode cL_act 88 = .ok (.aload_n 0, 1) := by decide +kernel
theorem dL_act_89 : decode cL_act 89 = .ok (.bipush 9, 2) := by decide +kernel
theorem dL_act_91 : decode cL_act 91 = .ok (.iload_n 3, 1) := by decide +kernel
theorem dL_act_92 : decode cL_act 92 = .ok (.iload_n 1, 1) := by decide +kernel
theorem dL_act_93 : decode cL_act 93 = .ok (.sipush 512, 3) := by decide +kernel
theorem dL_act_96 : decode cL_act 96 = .ok (.idiv, 1) := by decide +kernel
theorem dL_act_97 : decode cL_act 97 = .ok (.sipush 1000, 3) := by decide +kernel
theorem dL_act_100 : decode cL_act 100 = .ok (.irem, 1) := by decide +kernel
theorem dL_act_101 : decode cL_act 101 = .ok (.iconst 0, 1) := by decide +kernel
theorem dL_act_102 : decode cL_act 102 = .ok (.invokestatic 170, 3) := by decide +kernel
theorem dL_act_105 : decode cL_act 105 = .ok (.ireturn, 1) := by decide +kernel
theorem dL_act_106 : decode cL_act 106 = .ok (.aload_n 0, 1) := by decide +kernel
theorem dL_act_107 : decode cL_act 107 = .ok (.bipush 10, 2) := by decide +kernel
theorem dL_act_109 : decode cL_act 109 = .ok (.iload_n 3, 1) := by decide +kernel
theorem dL_act_110 : decode cL_act 110 = .ok (.iconst 1, 1) := by decide +kernel
theorem dL_act_111 : decode cL_act 111 = .ok (.iload_n 1, 1) := by decide +kernel
theorem dL_act_112 : decode cL_act 112 = .ok (.sipush 512, 3) := by decide +kernel
theorem dL_act_115 : decode cL_act 115 = .ok (.idiv, 1) := by decide +kernel
theorem dL_act_116 : decode cL_act 116 = .ok (.bipush 50, 2) := by decide +kernel
theorem dL_act_118 : decode cL_act 118 = .ok (.irem, 1) := by decide +kernel
theorem dL_act_119 : decode cL_act 119 = .ok (.iadd, 1) := by decide +kernel
theorem dL_act_120 : decode cL_act 120 = .ok (.iconst 0, 1) := by decide +kernel
theorem dL_act_121 : decode cL_act 121 = .ok (.invokestatic 170, 3) := by decide +kernel
theorem dL_act_124 : decode cL_act 124 = .ok (.ireturn, 1) := by decide +kernel
theorem dL_act_125 : decode cL_act 125 = .ok (.aload_n 0, 1) := by decide +kernel
theorem dL_act_126 : decode cL_act 126 = .ok (.bipush 11, 2) := by decide +kernel
theorem dL_act_128 : decode cL_act 128 = .ok (.iconst 1, 1) := by decide +kernel
theorem dL_act_129 : decode cL_act 129 = .ok (.iload_n 1, 1) := by decide +kernel
theorem dL_act_130 : decode cL_act 130 = .ok (.bipush 16, 2) := by decide +kernel
theorem dL_act_132 : decode cL_act 132 = .ok (.idiv, 1) := by decide +kernel
theorem dL_act_133 : decode cL_act 133 = .ok (.iconst 3, 1) := by decide +kernel
theorem dL_act_134 : decode cL_act 134 = .ok (.irem, 1) := by decide +kernel
theorem dL_act_135 : decode cL_act 135 = .ok (.iadd, 1) := by decide +kernel
theorem dL_act_136 : decode cL_act 136 = .ok (.iconst 0, 1) := by decide +kernel
theorem dL_act_137 : decode cL_act 137 = .ok (.iconst 0, 1) := by decide +kernel
theorem dL_act_138 : decode cL_act 138 = .ok (.invokestatic 170, 3) := by decide +kernel
theorem dL_act_141 : decode cL_act 141 = .ok (.ireturn, 1) := by decide +kernel
theorem dL_act_142 : decode cL_act 142 = .ok (.aload_n 0, 1) := by decide +kernel
theorem dL_act_143 : decode cL_act 143 = .ok (.bipush 12, 2) := by decide +kernel
theorem dL_act_145 : decode cL_act 145 = .ok (.iload_n 1, 1) := by decide +kernel
theorem dL_act_146 : decode cL_act 146 = .ok (.bipush 16, 2) := by decide +kernel
theorem dL_act_148 : decode cL_act 148 = .ok (.idiv, 1) := by decide +kernel
theorem dL_act_149 : decode cL_act 149 = .ok (.iconst 2, 1) := by decide +kernel
theorem dL_act_150 : decode cL_act 150 = .ok (.irem, 1) := by decide +kernel
theorem dL_act_151 : decode cL_act 151 = .ok (.iload_n 1, 1) := by decide +kernel
theorem dL_act_152 : decode cL_act 152 = .ok (.bipush 32, 2) := by decide +kernel
theorem dL_act_154 : decode cL_act 154 = .ok (.idiv, 1) := by decide +kernel
theorem dL_act_155 : decode cL_act 155 = .ok (.bipush 60, 2) := by decide +kernel
theorem dL_act_157 : decode cL_act 157 = .ok (.irem, 1) := by decide +kernel
theorem dL_act_158 : decode cL_act 158 = .ok (.iconst 0, 1) := by decide +kernel
theorem dL_act_159 : decode cL_act 159 = .ok (.invokestatic 170, 3) := by decide +kernel
theorem dL_act_162 : decode cL_act 162 = .ok (.ireturn, 1) := by decide +kernel
theorem dL_act_163 : decode cL_act 163 = .ok (.aload_n 0, 1) := by decide +kernel
theorem dL_act_164 : decode cL_act 164 = .ok (.iconst 2, 1) := by decide +kernel
theorem dL_act_165 : decode cL_act 165 = .ok (.iconst 4, 1) := by decide +kernel
theorem dL_act_166 : decode cL_act 166 = .ok (.iconst 0, 1) := by decide +kernel
theorem dL_act_167 : decode cL_act 167 = .ok (.iconst 0, 1) := by decide +kernel
theorem dL_act_168 : decode cL_act 168 = .ok (.invokestatic 170, 3) := by decide +kernel
theorem dL_act_171 : decode cL_act 171 = .ok (.sipush 600, 3) := by decide +kernel
theorem dL_act_174 : decode cL_act 174 = .ok (.if_icmp .ge 7, 3) := by decide +kernel
theorem dL_act_177 : decode cL_act 177 = .ok (.iconst (-1), 1) := by decide +kernel
theorem dL_act_178 : decode cL_act 178 = .ok (.goto 26, 3) := by decide +kernel
theorem dL_act_181 : decode cL_act 181 = .ok (.aload_n 0, 1) := by decide +kernel
theorem dL_act_182 : decode cL_act 182 = .ok (.bipush 8, 2) := by decide +kernel
theorem dL_act_184 : decode cL_act 184 = .ok (.iconst 4, 1) := by decide +kernel
theorem dL_act_185 : decode cL_act 185 = .ok (.iload_n 1, 1) := by decide +kernel
theorem dL_act_186 : decode cL_act 186 = .ok (.bipush 16, 2) := by decide +kernel
theorem dL_act_188 : decode cL_act 188 = .ok (.idiv, 1) := by decide +kernel
theorem dL_act_189 : decode cL_act 189 = .ok (.bipush 12, 2) := by decide +kernel
theorem dL_act_191 : decode cL_act 191 = .ok (.irem, 1) := by decide +kernel
theorem dL_act_192 : decode cL_act 192 = .ok (.iadd, 1) := by decide +kernel
theorem dL_act_193 : decode cL_act 193 = .ok (.iconst 1, 1) := by decide +kernel
theorem dL_act_194 : decode cL_act 194 = .ok (.iload_n 1, 1) := by decide +kernel
theorem dL_act_195 : decode cL_act 195 = .ok (.sipush 192, 3) := by decide +kernel
theorem dL_act_198 : decode cL_act 198 = .ok (.idiv, 1) := by decide +kernel
theorem dL_act_199 : decode cL_act 199 = .ok (.iconst 5, 1) := by decide +kernel
theorem dL_act_200 : decode cL_act 200 = .ok (.irem, 1) := by decide +kernel
theorem dL_act_201 : decode cL_act 201 = .ok (.invokestatic 170, 3) := by decide +kernel
theorem dL_act_204 : decode cL_act 204 = .ok (.ireturn, 1) := by decide +kernel
theorem dL_act_205 : decode cL_act 205 = .ok (.aload_n 0, 1) := by decide +kernel
theorem dL_act_206 : decode cL_act 206 = .ok (.bipush 20, 2) := by decide +kernel
theorem dL_act_208 : decode cL_act 208 = .ok (.iload_n 1, 1) := by decide +kernel
theorem dL_act_209 : decode cL_act 209 = .ok (.bipush 16, 2) := by decide +kernel
theorem dL_act_211 : decode cL_act 211 = .ok (.idiv, 1) := by decide +kernel
theorem dL_act_212 : decode cL_act 212 = .ok (.iconst 2, 1) := by decide +kernel
theorem dL_act_213 : decode cL_act 213 = .ok (.irem, 1) := by decide +kernel
theorem dL_act_214 : decode cL_act 214 = .ok (.iconst 0, 1) := by decide +kernel
theorem dL_act_215 : decode cL_act 215 = .ok (.iconst 0, 1) := by decide +kernel
theorem dL_act_216 : decode cL_act 216 = .ok (.invokestatic 170, 3) := by decide +kernel
theorem dL_act_219 : decode cL_act 219 = .ok (.ireturn, 1) := by decide +kernel
theorem dL_act_220 : decode cL_act 220 = .ok (.aload_n 0, 1) := by decide +kernel
theorem dL_act_221 : decode cL_act 221 = .ok (.bipush 21, 2) := by decide +kernel
theorem dL_act_223 : decode cL_act 223 = .ok (.iload_n 1, 1) := by decide +kernel
theorem dL_act_224 : decode cL_act 224 = .ok (.bipush 16, 2) := by decide +kernel
theorem dL_act_226 : decode cL_act 226 = .ok (.idiv, 1) := by decide +kernel
theorem dL_act_227 : decode cL_act 227 = .ok (.iconst 2, 1) := by decide +kernel
theorem dL_act_228 : decode cL_act 228 = .ok (.irem, 1) := by decide +kernel
theorem dL_act_229 : decode cL_act 229 = .ok (.iconst 0, 1) := by decide +kernel
theorem dL_act_230 : decode cL_act 230 = .ok (.iconst 0, 1) := by decide +kernel
theorem dL_act_231 : decode cL_act 231 = .ok (.invokestatic 170, 3) := by decide +kernel
theorem dL_act_234 : decode cL_act 234 = .ok (.ireturn, 1) := by decide +kernel
theorem dL_act_235 : decode cL_act 235 = .ok (.aload_n 0, 1) := by decide +kernel
theorem dL_act_236 : decode cL_act 236 = .ok (.iload_n 1, 1) := by decide +kernel
theorem dL_act_237 : decode cL_act 237 = .ok (.i2l, 1) := by decide +kernel
theorem dL_act_238 : decode cL_act 238 = .ok (.iconst 1, 1) := by decide +kernel
theorem dL_act_239 : decode cL_act 239 = .ok (.iload_n 1, 1) := by decide +kernel
theorem dL_act_240 : decode cL_act 240 = .ok (.bipush 16, 2) := by decide +kernel
theorem dL_act_242 : decode cL_act 242 = .ok (.idiv, 1) := by decide +kernel
theorem dL_act_243 : decode cL_act 243 = .ok (.bipush 100, 2) := by decide +kernel
theorem dL_act_245 : decode cL_act 245 = .ok (.irem, 1) := by decide +kernel
theorem dL_act_246 : decode cL_act 246 = .ok (.iadd, 1) := by decide +kernel
theorem dL_act_247 : decode cL_act 247 = .ok (.invokestatic 180, 3) := by decide +kernel
theorem dL_act_250 : decode cL_act 250 = .ok (.ireturn, 1) := by decide +kernel
set_option maxRecDepth 20000 in
theorem ggL_alike_L_call : GoodIn wsL_alike wsL_call := goodIn_ca (goodIn_ca (goodIn_ca (goodIn_r _ [4, 5, 6, 3, 7, 8, 9, 10, 11, 12, 13, 14, 15, 16, 17, 18, 19, 20, 21, 22, 23, 24, 25, 26, 27, 28, 29, 30, 31, 32, 33, 34, 35, 36, 37, 38, 39, 40, 41, 42, 43, 44, 45, 46, 47, 48, 49, 50, 51, 52, 53, 54, 55, 56, 57, 58, 59, 60, 61, 62, 63, 64, 65, 66, 67, 68, 69, 70, 71, 72, 73, 74, 75, 76, 77, 78, 79, 80, 81, 82, 83, 84, 85, 86, 87, 88, 89, 90, 91, 92, 93, 94, 95, 96, 97, 98, 99, 100, 101, 102, 103, 104, 105, 106, 107, 108, 109, 110, 111, 112, 113, 114, 115, 116, 117, 118, 119, 120, 121, 122, 123, 124, 125, 126, 127, 128, 129, 130, 131, 132, 133, 134, 135, 136, 137, 138, 139, 140, 141, 142, 143, 144, 145, 146, 147, 148, 149, 150, 151, 152, 153, 154, 155, 156, 157, 158, 159, 160, 161, 162, 163, 164, 165, 166, 167, 168, 169, 170, 171, 172, 173, 174, 175, 176, 177, 178, 179, 180, 181, 182, 183, 184, 185, 186, 187, 188, 189, 190, 191, 192, 193, 194, 195, 196, 197, 198, 199, 200, 201, 202, 203, 204, 205, 206, 207, 208, 209, 210, 211, 212, 213, 214, 215, 216, 217, 218, 219, 220, 221, 222, 223, 224, 225, 226, 227, 228, 229, 230, 231, 232, 233, 234, 235, 236, 237, 238, 239, 240, 241, 242, 243, 244, 245, 246, 247, 248, 249, 250, 251, 252, 253, 254, 255, 256, 257, 258, 259, 260, 261, 262, 263, 264, 265, 266, 267, 268, 269, 270, 271, 272, 273, 274, 275, 276, 277, 278, 279, 280, 281, 282, 283, 284, 285, 286, 287, 288, 289, 290, 291, 292, 293, 294, 295, 296, 297, 298, 299, 300, 301, 302, 303, 304, 305, 306, 307, 308, 309, 310, 311, 312, 313, 314, 315, 316, 317, 318, 319, 320, 321, 322, 323, 324, 325, 326, 327, 328, 329, 330, 331, 332, 333, 334, 335, 336, 337, 338, 339, 340, 341, 342, 343, 344, 345, 346, 347, 348, 349, 350, 351, 352, 353, 354, 355, 356, 357, 358, 359, 360, 361, 362, 363, 364, 365, 366, 367, 368, 369, 370, 371, 372, 373, 374, 375, 376, 377, 378, 379, 380, 381, 382, 383, 384, 385, 386, 387, 388, 389, 390, 391, 392, 393, 394, 395, 396, 397, 398, 399, 400, 401, 402, 403, 404, 405, 406, 407, 408, 409, 410, 411, 412, 413, 414, 415, 416, 417, 418, 419, 420, 421, 422, 423, 424, 425, 426, 427, 428, 429, 430, 431, 432, 433, 434, 435, 436, 437, 438, 439, 440, 441, 442, 443, 444, 445, 446, 447, 448, 449, 450, 451, 452, 453, 454, 455, 456, 457, 458, 459, 460, 475, 476, 477, 478, 479, 480, 481, 482, 483, 484, 485, 486, 487, 488, 489, 490, 491, 492, 493, 494, 495, 496, 497, 498, 499, 500, 501] (by decide +kernel) (by decide +kernel)) (goodIn_sub (fun _ h => List.mem_cons_of_mem _ (List.mem_append_left _ (List.mem_append_left _ (List.mem_append_right _ h)))) (by decide +kernel))) (goodIn_sub (fun _ h => List.mem_cons_of_mem _ (List.mem_append_left _ (List.mem_append_right _ h))) (by decide +kernel))) (goodIn_sub (fun _ h => List.mem_cons_of_mem _ (List.mem_append_right _ h)) (by decide +kernel))
set_option maxRecDepth 20000 in
theorem gL_alike_L_call : GoodIn wsL_alike (va_wsS RL 170 yL_call wsL_call) := goodIn_app (goodIn_of _ (by decide +kernel)) ggL_alike_L_call
set_option maxRecDepth 20000 in
theorem ggL_alike_L_doSimulate : GoodIn wsL_alike wsL_doSimulate := goodIn_ca (goodIn_r _ [463, 8, 10, 464, 465, 466, 15, 467, 17, 18, 43, 377, 468, 339, 169, 170, 83, 171, 91, 378, 296, 297, 298, 92, 93, 94, 95, 96, 97, 98, 99, 100, 101, 85, 86, 102, 299, 300, 301, 302, 103, 469, 470, 471, 472, 473, 474, 168, 128, 129, 130, 131, 122, 123, 124, 125, 132, 133, 134, 135, 136, 137, 138, 139, 140, 141, 142, 143, 144, 145, 146, 147, 398, 188, 189, 190, 191, 192, 193, 194, 475, 476, 477, 478, 479, 487, 488, 489, 490, 491, 492, 493, 494, 495, 496, 497, 498, 499, 500, 501] (by decide +kernel) (by decide +kernel)) (goodIn_sub (fun _ h => List.mem_cons_of_mem _ (List.mem_append_left _ (List.mem_append_left _ (List.mem_append_right _ h)))) (by decide +kernel))
set_option maxRecDepth 20000 in
theorem gL_alike_L_doSimulate : GoodIn wsL_alike (va_wsS RL 180 yL_doSimulate wsL_doSimulate) := goodIn_app (goodIn_of _ (by decide +kernel)) ggL_alike_L_doSimulate
theorem dL_alike_0 : decode cL_alike 0 = .ok (.aload_n 0, 1) := by decide +kernel
theorem dL_alike_1 : decode cL_alike 1 = .ok (.iconst 2, 1) := by decide +kernel
theorem dL_alike_2 : decode cL_alike 2 = .ok (.iconst 0, 1) := by decide +kernel
theorem dL_alike_3 : decode cL_alike 3 = .ok (.iconst 0, 1) := by decide +kernel
theorem dL_alike_4 : decode cL_alike 4 = .ok (.iconst 0, 1) := by decide +kernel
theorem dL_alike_5 : decode cL_alike 5 = .ok (.invokestatic 170, 3) := by decide +kernel
theorem dL_alike_8 : decode cL_alike 8 = .ok (.istore_n 3, 1) := by decide +kernel
theorem dL_alike_9 : decode cL_alike 9 = .ok (.aload_n 0, 1) := by decide +kernel
theorem dL_alike_10 : decode cL_alike 10 = .ok (.iload_n 2, 1) := by decide +kernel
theorem dL_alike_11 : decode cL_alike 11 = .ok (.i2l, 1) := by decide +kernel
theorem dL_alike_12 : decode cL_alike 12 = .ok (.iconst 1, 1) := by decide +kernel
theorem dL_alike_13 : decode cL_alike 13 = .ok (.iload_n 2, 1) := by decide +kernel
theorem dL_alike_14 : decode cL_alike 14 = .ok (.bipush 50, 2) := by decide +kernel
theorem dL_alike_16 : decode cL_alike 16 = .ok (.irem, 1) := by decide +kernel
theorem dL_alike_17 : decode cL_alike 17 = .ok (.iadd, 1) := by decide +kernel
theorem dL_alike_18 : decode cL_alike 18 = .ok (.invokestatic 180, 3) := by decide +kernel
theorem dL_alike_21 : decode cL_alike 21 = .ok (.aload_n 1, 1) := by decide +kernel
theorem dL_alike_22 : decode cL_alike 22 = .ok (.iload_n 2, 1) := by decide +kernel
theorem dL_alike_23 : decode cL_alike 23 = .ok (.i2l, 1) := by decide +kernel
theorem dL_alike_24 : decode cL_alike 24 = .ok (.iconst 1, 1) := by decide +kernel
theorem dL_alike_25 : decode cL_alike 25 = .ok (.iload_n 2, 1) := by decide +kernel
theorem dL_alike_26 : decode cL_alike 26 = .ok (.bipush 50, 2) := by decide +kernel
theorem dL_alike_28 : decode cL_alike 28 = .ok (.irem, 1) := by decide +kernel
theorem dL_alike_29 : decode cL_alike 29 = .ok (.iadd, 1) := by decide +kernel
theorem dL_alike_30 : decode cL_alike 30 = .ok (.invokestatic 180, 3) := by decide +kernel
theorem dL_alike_33 : decode cL_alike 33 = .ok (.if_icmp .ne 7, 3) := by decide +kernel
theorem dL_alike_36 : decode cL_alike 36 = .ok (.iconst 1, 1) := by decide +kernel
theorem dL_alike_37 : decode cL_alike 37 = .ok (.goto 4, 3) := by decide +kernel
theorem dL_alike_40 : decode cL_alike 40 = .ok (.iconst 0, 1) := by decide +kernel
theorem dL_alike_41 : decode cL_alike 41 = .ok (.istore 4, 2) := by decide +kernel
theorem dL_alike_43 : decode cL_alike 43 = .ok (.iconst 0, 1) := by decide +kernel
theorem dL_alike_44 : decode cL_alike 44 = .ok (.istore 5, 2) := by decide +kernel
theorem dL_alike_46 : decode cL_alike 46 = .ok (.iload 5, 2) := by decide +kernel
theorem dL_alike_48 : decode cL_alike 48 = .ok (.bipush 12, 2) := by decide +kernel
theorem dL_alike_50 : decode cL_alike 50 = .ok (.if_icmp .ge 65, 3) := by decide +kernel
theorem dL_alike_53 : decode cL_alike 53 = .ok (.iload 4, 2) := by decide +kernel
theorem dL_alike_55 : decode cL_alike 55 = .ok (.ifCond .eq 60, 3) := by decide +kernel
theorem dL_alike_58 : decode cL_alike 58 = .ok (.aload_n 0, 1) := by decide +kernel
theorem dL_alike_59 : decode cL_alike 59 = .ok (.iconst 2, 1) := by decide +kernel
theorem dL_alike_60 : decode cL_alike 60 = .ok (.iload 5, 2) := by decide +kernel
theorem dL_alike_62 : decode cL_alike 62 = .ok (.iconst 0, 1) := by decide +kernel
theorem dL_alike_63 : decode cL_alike 63 = .ok (.iconst 0, 1) := by decide +kernel
theorem dL_alike_64 : decode cL_alike 64 = .ok (.invokestatic 170, 3) := by decide +kernel
theorem dL_alike_67 : decode cL_alike 67 = .ok (.aload_n 1, 1) := by decide +kernel
theorem dL_alike_68 : decode cL_alike 68 = .ok (.iconst 2, 1) := by decide +kernel
theorem dL_alike_69 : decode cL_alike 69 = .ok (.iload 5, 2) := by decide +kernel
theorem dL_alike_71 : decode cL_alike 71 = .ok (.iconst 0, 1) := by decide +kernel
theorem dL_alike_72 : decode cL_alike 72 = .ok (.iconst 0, 1) := by decide +kernel
theorem dL_alike_73 : decode cL_alike 73 = .ok (.invokestatic 170, 3) := by decide +kernel
theorem dL_alike_76 : decode cL_alike 76 = .ok (.if_icmp .ne 30, 3) := by decide +kernel
theorem dL_alike_79 : decode cL_alike 79 = .ok (.aload_n 0, 1) := by decide +kernel
theorem dL_alike_80 : decode cL_alike 80 = .ok (.bipush 7, 2) := by decide +kernel
theorem dL_alike_82 : decode cL_alike 82 = .ok (.iload 5, 2) := by decide +kernel
theorem dL_alike_84 : decode cL_alike 84 = .ok (.iconst 0, 1) := by decide +kernel
theorem dL_alike_85 : decode cL_alike 85 = .ok (.iconst 0, 1) := by decide +kernel
theorem dL_alike_86 : decode cL_alike 86 = .ok (.invokestatic 170, 3) := by decide +kernel
theorem dL_alike_89 : decode cL_alike 89 = .ok (.aload_n 1, 1) := by decide +kernel
theorem dL_alike_90 : decode cL_alike 90 = .ok (.bipush 7, 2) := by decide +kernel
theorem dL_alike_92 : decode cL_alike 92 = .ok (.iload 5, 2) := by decide +kernel
theorem dL_alike_94 : decode cL_alike 94 = .ok (.iconst 0, 1) := by decide +kernel
theorem dL_alike_95 : decode cL_alike 95 = .ok (.iconst 0, 1) := by decide +kernel
theorem dL_alike_96 : decode cL_alike 96 = .ok (.invokestatic 170, 3) := by decide +kernel
theorem dL_alike_99 : decode cL_alike 99 = .ok (.if_icmp .ne 7, 3) := by decide +kernel
theorem dL_alike_102 : decode cL_alike 102 = .ok (.iconst 1, 1) := by decide +kernel
theorem dL_alike_103 : decode cL_alike 103 = .ok (.goto 4, 3) := by decide +kernel
theorem dL_alike_106 : decode cL_alike 106 = .ok (.iconst 0, 1) := by decide +kernel
theorem dL_alike_107 : decode cL_alike 107 = .ok (.istore 4, 2) := by decide +kernel
theorem dL_alike_109 : decode cL_alike 109 = .ok (.iinc 5 1, 3) := by decide +kernel
theorem dL_alike_112 : decode cL_alike 112 = .ok (.goto (-66), 3) := by decide +kernel
theorem dL_alike_115 : decode cL_alike 115 = .ok (.iconst 0, 1) := by decide +kernel
theorem dL_alike_116 : decode cL_alike 116 = .ok (.istore 5, 2) := by decide +kernel
theorem dL_alike_118 : decode cL_alike 118 = .ok (.iload 5, 2) := by decide +kernel
theorem dL_alike_120 : decode cL_alike 120 = .ok (.iload_n 3, 1) := by decide +kernel
theorem dL_alike_121 : decode cL_alike 121 = .ok (.if_icmp .gt 86, 3) := by decide +kernel
theorem dL_alike_124 : decode cL_alike 124 = .ok (.iload 4, 2) := by decide +kernel
theorem dL_alike_126 : decode cL_alike 126 = .ok (.ifCond .eq 81, 3) := by decide +kernel
theorem dL_alike_129 : decode cL_alike 129 = .ok (.aload_n 0, 1) := by decide +kernel
theorem dL_alike_130 : decode cL_alike 130 = .ok (.bipush 6, 2) := by decide +kernel
theorem dL_alike_132 : decode cL_alike 132 = .ok (.iload 5, 2) := by decide +kernel
theorem dL_alike_134 : decode cL_alike 134 = .ok (.iconst 0, 1) := by decide +kernel
theorem dL_alike_135 : decode cL_alike 135 = .ok (.iconst 0, 1) := by decide +kernel
theorem dL_alike_136 : decode cL_alike 136 = .ok (.invokestatic 170, 3) := by decide +kernel
theorem dL_alike_139 : decode cL_alike 139 = .ok (.aload_n 1, 1) := by decide +kernel
theorem dL_alike_140 : decode cL_alike 140 = .ok (.bipush 6, 2) := by decide +kernel
theorem dL_alike_142 : decode cL_alike 142 = .ok (.iload 5, 2) := by decide +kernel
theorem dL_alike_144 : decode cL_alike 144 = .ok (.iconst 0, 1) := by decide +kernel
theorem dL_alike_145 : decode cL_alike 145 = .ok (.iconst 0, 1) := by decide +kernel
theorem dL_alike_146 : decode cL_alike 146 = .ok (.invokestatic 170, 3) := by decide +kernel
theorem dL_alike_149 : decode cL_alike 149 = .ok (.if_icmp .ne 49, 3) := by decide +kernel
theorem dL_alike_152 : decode cL_alike 152 = .ok (.aload_n 0, 1) := by decide +kernel
theorem dL_alike_153 : decode cL_alike 153 = .ok (.iconst 5, 1) := by decide +kernel
theorem dL_alike_154 : decode cL_alike 154 = .ok (.iload 5, 2) := by decide +kernel
theorem dL_alike_156 : decode cL_alike 156 = .ok (.iconst 0, 1) := by decide +kernel
theorem dL_alike_157 : decode cL_alike 157 = .ok (.iconst 0, 1) := by decide +kernel
theorem dL_alike_158 : decode cL_alike 158 = .ok (.invokestatic 170, 3) := by decide +kernel
theorem dL_alike_161 : decode cL_alike 161 = .ok (.aload_n 1, 1) := by decide +kernel
theorem dL_alike_162 : decode cL_alike 162 = .ok (.iconst 5, 1) := by decide +kernel
theorem dL_alike_163 : decode cL_alike 163 = .ok (.iload 5, 2) := by decide +kernel
theorem dL_alike_165 : decode cL_alike 165 = .ok (.iconst 0, 1) := by decide +kernel
theorem dL_alike_166 : decode cL_alike 166 = .ok (.iconst 0, 1) := by decide +kernel
theorem dL_alike_167 : decode cL_alike 167 = .ok (.invokestatic 170, 3) := by decide +kernel
theorem dL_alike_170 : decode cL_alike 170 = .ok (.if_icmp .ne 28, 3) := by decide +kernel
theorem dL_alike_173 : decode cL_alike 173 = .ok (.aload_n 0, 1) := by decide +kernel
theorem dL_alike_174 : decode cL_alike 174 = .ok (.iconst 3, 1) := by decide +kernel
theorem dL_alike_175 : decode cL_alike 175 = .ok (.iload 5, 2) := by decide +kernel
theorem dL_alike_177 : decode cL_alike 177 = .ok (.iconst 0, 1) := by decide +kernel
theorem dL_alike_178 : decode cL_alike 178 = .ok (.iconst 0, 1) := by decide +kernel
theorem dL_alike_179 : decode cL_alike 179 = .ok (.invokestatic 170, 3) := by decide +kernel
theorem dL_alike_182 : decode cL_alike 182 = .ok (.aload_n 1, 1) := by decide +kernel
theorem dL_alike_183 : decode cL_alike 183 = .ok (.iconst 3, 1) := by decide +kernel
theorem dL_alike_184 : decode cL_alike 184 = .ok (.iload 5, 2) := by decide +kernel
theorem dL_alike_186 : decode cL_alike 186 = .ok (.iconst 0, 1) := by decide +kernel
theorem dL_alike_187 : decode cL_alike 187 = .ok (.iconst 0, 1) := by decide +kernel
theorem dL_alike_188 : decode cL_alike 188 = .ok (.invokestatic 170, 3) := by decide +kernel
theorem dL_alike_191 : decode cL_alike 191 = .ok (.if_icmp .ne 7, 3) := by decide +kernel
theorem dL_alike_194 : decode cL_alike 194 = .ok (.iconst 1, 1) := by decide +kernel
theorem dL_alike_195 : decode cL_alike 195 = .ok (.goto 4, 3) := by decide +kernel
theorem dL_alike_198 : decode cL_alike 198 = .ok (.iconst 0, 1) := by decide +kernel
theorem dL_alike_199 : decode cL_alike 199 = .ok (.istore 4, 2) := by decide +kernel
theorem dL_alike_201 : decode cL_alike 201 = .ok (.iinc 5 1, 3) := by decide +kernel
theorem dL_alike_204 : decode cL_alike 204 = .ok (.goto (-86), 3) := by decide +kernel
theorem dL_alike_207 : decode cL_alike 207 = .ok (.iload 4, 2) := by decide +kernel
theorem dL_alike_209 : decode cL_alike 209 = .ok (.ireturn, 1) := by decide +kernel
end
section
set_option maxRecDepth 20000 in
theorem ggL_law_X5_init : GoodIn wsL_law wsX5_init := goodIn_r _ [6, 7, 8, 9, 10, 11, 12, 13, 14, 15, 16, 17, 18, 19, 20, 21, 22, 23, 24, 25, 26, 27, 28, 29, 30, 31, 32, 33, 34, 35, 36, 37, 38, 39, 40, 41, 42, 43, 44, 45, 46, 47, 48, 49, 50, 51, 558, 559, 553, 554, 555, 556, 557, 560, 561, 562, 563, 564, 565, 566, 567, 568, 569, 570, 571, 572, 573, 574, 575, 576, 577, 578, 579] (by decide +kernel) (by decide +kernel)
set_option maxRecDepth 20000 in
theorem gL_law_X5_init : GoodIn wsL_law (wsX5_init) := ggL_law_X5_init
set_option maxRecDepth 20000 in
theorem ggL_law_L_cell : GoodIn wsL_law wsL_cell := goodIn_r _ [55, 56, 57] (by decide +kernel) (by decide +kernel)
set_option maxRecDepth 20000 in
theorem gL_law_L_cell : GoodIn wsL_law (va_wsS RL 186 yL_cell wsL_cell) := goodIn_app (goodIn_of _ (by decide +kernel)) ggL_law_L_cell
set_option maxRecDepth 20000 in
theorem ggL_law_L_call : GoodIn wsL_law wsL_call := goodIn_ca (goodIn_ca (goodIn_ca (goodIn_r _ [60, 61, 62, 54, 63, 64, 65, 66, 67, 68, 69, 70, 2, 71, 72, 73, 74, 75, 13, 76, 77, 78, 12, 79, 80, 81, 82, 83, 84, 31, 85, 86, 87, 88, 89, 90, 91, 92, 22, 26, 17, 93, 94, 95, 96, 97, 98, 99, 100, 101, 102, 103, 104, 105, 106, 107, 108, 109, 110, 111, 112, 113, 114, 115, 116, 117, 118, 119, 21, 120, 121, 122, 123, 124, 25, 125, 51, 126, 127, 128, 16, 129, 35, 36, 130, 131, 132, 133, 134, 135, 136, 137, 138, 139, 140, 141, 142, 143, 144, 38, 39, 145, 146, 147, 148, 149, 150, 151, 152, 153, 154, 155, 156, 157, 158, 159, 160, 161, 162, 163, 164, 165, 166, 167, 168, 169, 170, 171, 172, 173, 174, 175, 176, 177, 178, 179, 180, 181, 182, 183, 184, 185, 186, 187, 188, 189, 190, 191, 192, 193, 194, 195, 196, 197, 198, 199, 200, 201, 202, 203, 204, 205, 206, 207, 208, 209, 210, 211, 212, 213, 214, 215, 216, 217, 218, 219, 220, 221, 222, 223, 224, 225, 226, 227, 228, 229, 230, 231, 232, 233, 234, 235, 236, 237, 238, 239, 240, 241, 242, 243, 244, 245, 246, 247, 248, 249, 250, 251, 252, 253, 254, 255, 256, 257, 258, 259, 260, 261, 262, 263, 264, 265, 266, 267, 268, 269, 270, 271, 272, 273, 274, 275, 276, 277, 278, 279, 280, 281, 282, 283, 284, 285, 286, 287, 288, 289, 290, 291, 292, 293, 294, 295, 296, 297, 298, 299, 300, 301, 302, 303, 304, 305, 306, 307, 308, 309, 310, 311, 312, 313, 314, 315, 316, 317, 318, 319, 320, 321, 322, 323, 324, 44, 325, 43, 15, 326, 32, 33, 34, 8, 9, 37, 327, 328, 329, 330, 331, 332, 333, 334, 335, 336, 337, 338, 339, 340, 341, 342, 343, 344, 345, 346, 347, 348, 349, 350, 351, 352, 353, 354, 355, 356, 357, 358, 359, 360, 361, 362, 363, 364, 365, 366, 367, 368, 369, 370, 371, 372, 373, 374, 375, 376, 377, 378, 379, 380, 381, 382, 383, 384, 385, 386, 387, 388, 389, 390, 391, 392, 393, 394, 395, 396, 397, 398, 399, 400, 401, 402, 403, 404, 405, 406, 407, 408, 18, 409, 410, 411, 412, 413, 414, 415, 416, 417, 418, 419, 420, 421, 422, 423, 424, 425, 426, 427, 428, 429, 430, 431, 432, 433, 434, 435, 436, 437, 438, 439, 440, 441, 442, 443, 444, 445, 446, 447, 448, 449, 450, 451, 452, 453, 454, 455, 456, 457, 458, 459, 460, 461, 462, 463, 464, 465, 466, 467, 468, 469, 470, 471, 472, 473, 474, 475, 476, 49, 48, 477, 478, 479, 480, 481, 482, 483, 484, 485, 486, 487, 488, 489, 553, 554, 555, 556, 557, 558, 559, 575, 576, 577, 578, 579, 560, 561, 562, 563, 564, 565, 566, 567, 568, 569, 570, 571, 572, 573, 574] (by decide +kernel) (by decide +kernel)) (goodIn_sub (fun _ h => List.mem_append_left _ (List.mem_append_left _ (List.mem_append_right _ h))) (by decide +kernel))) (goodIn_sub (fun _ h => List.mem_append_left _ (List.mem_append_right _ h)) (by decide +kernel))) (goodIn_sub (fun _ h => List.mem_append_right _ h) (by decide +kernel))
set_option maxRecDepth 20000 in
theorem gL_law_L_call : GoodIn wsL_law (va_wsS RL 170 yL_call wsL_call) := goodIn_app (goodIn_of _ (by decide +kernel)) ggL_law_L_call
set_option maxRecDepth 20000 in
theorem ggL_law_L_thrown : GoodIn wsL_law wsL_thrown := goodIn_r _ [492, 247, 66, 67] (by decide +kernel) (by decide +kernel)
set_option maxRecDepth 20000 in
theorem gL_law_L_thrown : GoodIn wsL_law (va_wsS RL 190 yL_thrown wsL_thrown) := goodIn_app (goodIn_of _ (by decide +kernel)) ggL_law_L_thrown
set_option maxRecDepth 20000 in
theorem ggL_law_L_act : GoodIn wsL_law wsL_act := goodIn_ca (goodIn_ca (goodIn_ca (goodIn_r _ [495, 58, 59, 54, 60, 61, 62, 63, 64, 65, 66, 67, 68, 69, 70, 2, 71, 72, 73, 74, 75, 13, 76, 77, 78, 12, 79, 80, 81, 82, 83, 84, 31, 85, 86, 87, 88, 89, 90, 91, 92, 22, 26, 17, 93, 94, 95, 96, 97, 98, 99, 100, 101, 102, 103, 104, 105, 106, 107, 108, 109, 110, 111, 112, 113, 114, 115, 116, 117, 118, 119, 21, 120, 121, 122, 123, 124, 25, 125, 51, 126, 127, 128, 16, 129, 35, 36, 130, 131, 132, 133, 134, 135, 136, 137, 138, 139, 140, 141, 142, 143, 144, 38, 39, 145, 146, 147, 148, 149, 150, 151, 152, 153, 154, 155, 156, 157, 158, 159, 160, 161, 162, 163, 164, 165, 166, 167, 168, 169, 170, 171, 172, 173, 174, 175, 176, 177, 178, 179, 180, 181, 182, 183, 184, 185, 186, 187, 188, 189, 190, 191, 192, 193, 194, 195, 196, 197, 198, 199, 200, 201, 202, 203, 204, 205, 206, 207, 208, 209, 210, 211, 212, 213, 214, 215, 216, 217, 218, 219, 220, 221, 222, 223, 224, 225, 226, 227, 228, 229, 230, 231, 232, 233, 234, 235, 236, 237, 238, 239, 240, 241, 242, 243, 244, 245, 246, 247, 248, 249, 250, 251, 252, 253, 254, 255, 256, 257, 258, 259, 260, 261, 262, 263, 264, 265, 266, 267, 268, 269, 270, 271, 272, 273, 274, 275, 276, 277, 278, 279, 280, 281, 282, 283, 284, 285, 286, 287, 288, 289, 290, 291, 292, 293, 294, 295, 296, 297, 298, 299, 300, 301, 302, 303, 304, 305, 306, 307, 308, 309, 310, 311, 312, 313, 314, 315, 316, 317, 318, 319, 320, 321, 322, 323, 324, 44, 325, 43, 15, 326, 32, 33, 34, 8, 9, 37, 327, 328, 329, 330, 331, 332, 333, 334, 335, 336, 337, 338, 339, 340, 341, 342, 343, 344, 345, 346, 347, 348, 349, 350, 351, 352, 353, 354, 355, 356, 357, 358, 359, 360, 361, 362, 363, 364, 365, 366, 367, 368, 369, 370, 371, 372, 373, 374, 375, 376, 377, 378, 379, 380, 381, 382, 383, 384, 385, 386, 387, 388, 389, 390, 391, 392, 393, 394, 395, 396, 397, 398, 399, 400, 401, 402, 403, 404, 405, 406, 407, 408, 18, 409, 410, 411, 412, 413, 414, 415, 416, 417, 418, 419, 420, 421, 422, 423, 424, 425, 426, 427, 428, 429, 430, 431, 432, 433, 434, 435, 436, 437, 438, 439, 440, 441, 442, 443, 444, 445, 446, 447, 448, 449, 450, 451, 452, 453, 454, 455, 456, 457, 458, 459, 460, 461, 462, 463, 464, 465, 466, 467, 468, 469, 470, 471, 472, 473, 474, 475, 476, 49, 48, 477, 478, 479, 480, 481, 482, 483, 484, 485, 486, 487, 488, 489, 496, 497, 498, 499, 500, 501, 502, 503, 504, 505, 506, 507, 508, 509, 553, 554, 555, 556, 557, 558, 559, 575, 576, 577, 578, 579, 560, 561, 562, 563, 564, 565, 566, 567, 568, 569, 570, 571, 572, 573, 574] (by decide +kernel) (by decide +kernel)) (goodIn_sub (fun _ h => List.mem_append_left _ (List.mem_append_left _ (List.mem_append_right _ h))) (by decide +kernel))) (goodIn_sub (fun _ h => List.mem_append_left _ (List.mem_append_right _ h)) (by decide +kernel))) (goodIn_sub (fun _ h => List.mem_append_right _ h) (by decide +kernel))
set_option maxRecDepth 20000 in
theorem gL_law_L_act : GoodIn wsL_law (va_wsS RL 194 yL_act wsL_act) := goodIn_app (goodIn_of _ (by decide +kernel)) ggL_law_L_act
set_option maxRecDepth 20000 in
theorem ggL_law_L_refuses : GoodIn wsL_law wsL_refuses := goodIn_ca (goodIn_ca (goodIn_ca (goodIn_r _ [512, 66, 247, 513, 58, 59, 54, 60, 61, 62, 63, 64, 65, 67, 68, 69, 70, 2, 71, 72, 73, 74, 75, 13, 76, 77, 78, 12, 79, 80, 81, 82, 83, 84, 31, 85, 86, 87, 88, 89, 90, 91, 92, 22, 26, 17, 93, 94, 95, 96, 97, 98, 99, 100, 101, 102, 103, 104, 105, 106, 107, 108, 109, 110, 111, 112, 113, 114, 115, 116, 117, 118, 119, 21, 120, 121, 122, 123, 124, 25, 125, 51, 126, 127, 128, 16, 129, 35, 36, 130, 131, 132, 133, 134, 135, 136, 137, 138, 139, 140, 141, 142, 143, 144, 38, 39, 145, 146, 147, 148, 149, 150, 151, 152, 153, 154, 155, 156, 157, 158, 159, 160, 161, 162, 163, 164, 165, 166, 167, 168, 169, 170, 171, 172, 173, 174, 175, 176, 177, 178, 179, 180, 181, 182, 183, 184, 185, 186, 187, 188, 189, 190, 191, 192, 193, 194, 195, 196, 197, 198, 199, 200, 201, 202, 203, 204, 205, 206, 207, 208, 209, 210, 211, 212, 213, 214, 215, 216, 217, 218, 219, 220, 221, 222, 223, 224, 225, 226, 227, 228, 229, 230, 231, 232, 233, 234, 235, 236, 237, 238, 239, 240, 241, 242, 243, 244, 245, 246, 248, 249, 250, 251, 252, 253, 254, 255, 256, 257, 258, 259, 260, 261, 262, 263, 264, 265, 266, 267, 268, 269, 270, 271, 272, 273, 274, 275, 276, 277, 278, 279, 280, 281, 282, 283, 284, 285, 286, 287, 288, 289, 290, 291, 292, 293, 294, 295, 296, 297, 298, 299, 300, 301, 302, 303, 304, 305, 306, 307, 308, 309, 310, 311, 312, 313, 314, 315, 316, 317, 318, 319, 320, 321, 322, 323, 324, 44, 325, 43, 15, 326, 32, 33, 34, 8, 9, 37, 327, 328, 329, 330, 331, 332, 333, 334, 335, 336, 337, 338, 339, 340, 341, 342, 343, 344, 345, 346, 347, 348, 349, 350, 351, 352, 353, 354, 355, 356, 357, 358, 359, 360, 361, 362, 363, 364, 365, 366, 367, 368, 369, 370, 371, 372, 373, 374, 375, 376, 377, 378, 379, 380, 381, 382, 383, 384, 385, 386, 387, 388, 389, 390, 391, 392, 393, 394, 395, 396, 397, 398, 399, 400, 401, 402, 403, 404, 405, 406, 407, 408, 18, 409, 410, 411, 412, 413, 414, 415, 416, 417, 418, 419, 420, 421, 422, 423, 424, 425, 426, 427, 428, 429, 430, 431, 432, 433, 434, 435, 436, 437, 438, 439, 440, 441, 442, 443, 444, 445, 446, 447, 448, 449, 450, 451, 452, 453, 454, 455, 456, 457, 458, 459, 460, 461, 462, 463, 464, 465, 466, 467, 468, 469, 470, 471, 472, 473, 474, 475, 476, 49, 48, 477, 478, 479, 480, 481, 482, 483, 484, 485, 486, 487, 488, 489, 514, 515, 516, 517, 518, 519, 520, 521, 522, 523, 524, 525, 526, 527, 528, 529, 530, 531, 532, 533, 534, 535, 536, 537, 538, 539, 540, 541, 542, 543, 544, 545, 496, 497, 498, 499, 500, 501, 502, 503, 504, 505, 506, 507, 508, 509, 553, 554, 555, 556, 557, 558, 559, 575, 576, 577, 578, 579, 560, 561, 562, 563, 564, 565, 566, 567, 568, 569, 570, 571, 572, 573, 574] (by decide +kernel) (by decide +kernel)) (goodIn_sub (fun _ h => List.mem_append_left _ (List.mem_append_left _ (List.mem_append_right _ h))) (by decide +kernel))) (goodIn_sub (fun _ h => List.mem_append_left _ (List.mem_append_right _ h)) (by decide +kernel))) (goodIn_sub (fun _ h => List.mem_append_right _ h) (by decide +kernel))
set_option maxRecDepth 20000 in
theorem gL_law_L_refuses : GoodIn wsL_law (va_wsS RL 198 yL_refuses wsL_refuses) := goodIn_app (goodIn_of _ (by decide +kernel)) ggL_law_L_refuses
set_option maxRecDepth 20000 in
theorem ggL_law_L_alike : GoodIn wsL_law wsL_alike := goodIn_ca (goodIn_ca (goodIn_ca (goodIn_r _ [548, 58, 59, 54, 60, 61, 62, 63, 64, 65, 66, 67, 68, 69, 70, 2, 71, 72, 73, 74, 75, 13, 76, 77, 78, 12, 79, 80, 81, 82, 83, 84, 31, 85, 86, 87, 88, 89, 90, 91, 92, 22, 26, 17, 93, 94, 95, 96, 97, 98, 99, 100, 101, 102, 103, 104, 105, 106, 107, 108, 109, 110, 111, 112, 113, 114, 115, 116, 117, 118, 119, 21, 120, 121, 122, 123, 124, 25, 125, 51, 126, 127, 128, 16, 129, 35, 36, 130, 131, 132, 133, 134, 135, 136, 137, 138, 139, 140, 141, 142, 143, 144, 38, 39, 145, 146, 147, 148, 149, 150, 151, 152, 153, 154, 155, 156, 157, 158, 159, 160, 161, 162, 163, 164, 165, 166, 167, 168, 169, 170, 171, 172, 173, 174, 175, 176, 177, 178, 179, 180, 181, 182, 183, 184, 185, 186, 187, 188, 189, 190, 191, 192, 193, 194, 195, 196, 197, 198, 199, 200, 201, 202, 203, 204, 205, 206, 207, 208, 209, 210, 211, 212, 213, 214, 215, 216, 217, 218, 219, 220, 221, 222, 223, 224, 225, 226, 227, 228, 229, 230, 231, 232, 233, 234, 235, 236, 237, 238, 239, 240, 241, 242, 243, 244, 245, 246, 247, 248, 249, 250, 251, 252, 253, 254, 255, 256, 257, 258, 259, 260, 261, 262, 263, 264, 265, 266, 267, 268, 269, 270, 271, 272, 273, 274, 275, 276, 277, 278, 279, 280, 281, 282, 283, 284, 285, 286, 287, 288, 289, 290, 291, 292, 293, 294, 295, 296, 297, 298, 299, 300, 301, 302, 303, 304, 305, 306, 307, 308, 309, 310, 311, 312, 313, 314, 315, 316, 317, 318, 319, 320, 321, 322, 323, 324, 44, 325, 43, 15, 326, 32, 33, 34, 8, 9, 37, 327, 328, 329, 330, 331, 332, 333, 334, 335, 336, 337, 338, 339, 340, 341, 342, 343, 344, 345, 346, 347, 348, 349, 350, 351, 352, 353, 354, 355, 356, 357, 358, 359, 360, 361, 362, 363, 364, 365, 366, 367, 368, 369, 370, 371, 372, 373, 374, 375, 376, 377, 378, 379, 380, 381, 382, 383, 384, 385, 386, 387, 388, 389, 390, 391, 392, 393, 394, 395, 396, 397, 398, 399, 400, 401, 402, 403, 404, 405, 406, 407, 408, 18, 409, 410, 411, 412, 413, 414, 415, 416, 417, 418, 419, 420, 421, 422, 423, 424, 425, 426, 427, 428, 429, 430, 431, 432, 433, 434, 435, 436, 437, 438, 439, 440, 441, 442, 443, 444, 445, 446, 447, 448, 449, 450, 451, 452, 453, 454, 455, 456, 457, 458, 459, 460, 461, 462, 463, 464, 465, 466, 467, 468, 469, 470, 471, 472, 473, 474, 475, 476, 49, 48, 477, 478, 479, 480, 481, 482, 483, 484, 485, 486, 487, 488, 489, 496, 497, 498, 499, 500, 501, 502, 503, 504, 505, 506, 507, 508, 509, 553, 554, 555, 556, 557, 558, 559, 575, 576, 577, 578, 579, 560, 561, 562, 563, 564, 565, 566, 567, 568, 569, 570, 571, 572, 573, 574] (by decide +kernel) (by decide +kernel)) (goodIn_sub (fun _ h => List.mem_append_left _ (List.mem_append_left _ (List.mem_append_right _ h))) (by decide +kernel))) (goodIn_sub (fun _ h => List.mem_append_left _ (List.mem_append_right _ h)) (by decide +kernel))) (goodIn_sub (fun _ h => List.mem_append_right _ h) (by decide +kernel))
set_option maxRecDepth 20000 in
theorem gL_law_L_alike : GoodIn wsL_law (va_wsS RL 202 yL_alike wsL_alike) := goodIn_app (goodIn_of _ (by decide +kernel)) ggL_law_L_alike
set_option maxRecDepth 20000 in
theorem ggL_law_L_holds : GoodIn wsL_law wsL_holds := goodIn_ca (goodIn_ca (goodIn_ca (goodIn_r _ [551, 552, 58, 59, 54, 60, 61, 62, 63, 64, 65, 66, 67, 68, 69, 70, 2, 71, 72, 73, 74, 75, 13, 76, 77, 78, 12, 79, 80, 81, 82, 83, 84, 31, 85, 86, 87, 88, 89, 90, 91, 92, 22, 26, 17, 93, 94, 95, 96, 97, 98, 99, 100, 101, 102, 103, 104, 105, 106, 107, 108, 109, 110, 111, 112, 113, 114, 115, 116, 117, 118, 119, 21, 120, 121, 122, 123, 124, 25, 125, 51, 126, 127, 128, 16, 129, 35, 36, 130, 131, 132, 133, 134, 135, 136, 137, 138, 139, 140, 141, 142, 143, 144, 38, 39, 145, 146, 147, 148, 149, 150, 151, 152, 153, 154, 155, 156, 157, 158, 159, 160, 161, 162, 163, 164, 165, 166, 167, 168, 169, 170, 171, 172, 173, 174, 175, 176, 177, 178, 179, 180, 181, 182, 183, 184, 185, 186, 187, 188, 189, 190, 191, 192, 193, 194, 195, 196, 197, 198, 199, 200, 201, 202, 203, 204, 205, 206, 207, 208, 209, 210, 211, 212, 213, 214, 215, 216, 217, 218, 219, 220, 221, 222, 223, 224, 225, 226, 227, 228, 229, 230, 231, 232, 233, 234, 235, 236, 237, 238, 239, 240, 241, 242, 243, 244, 245, 246, 247, 248, 249, 250, 251, 252, 253, 254, 255, 256, 257, 258, 259, 260, 261, 262, 263, 264, 265, 266, 267, 268, 269, 270, 271, 272, 273, 274, 275, 276, 277, 278, 279, 280, 281, 282, 283, 284, 285, 286, 287, 288, 289, 290, 291, 292, 293, 294, 295, 296, 297, 298, 299, 300, 301, 302, 303, 304, 305, 306, 307, 308, 309, 310, 311, 312, 313, 314, 315, 316, 317, 318, 319, 320, 321, 322, 323, 324, 44, 325, 43, 15, 326, 32, 33, 34, 8, 9, 37, 327, 328, 329, 330, 331, 332, 333, 334, 335, 336, 337, 338, 339, 340, 341, 342, 343, 344, 345, 346, 347, 348, 349, 350, 351, 352, 353, 354, 355, 356, 357, 358, 359, 360, 361, 362, 363, 364, 365, 366, 367, 368, 369, 370, 371, 372, 373, 374, 375, 376, 377, 378, 379, 380, 381, 382, 383, 384, 385, 386, 387, 388, 389, 390, 391, 392, 393, 394, 395, 396, 397, 398, 399, 400, 401, 402, 403, 404, 405, 406, 407, 408, 18, 409, 410, 411, 412, 413, 414, 415, 416, 417, 418, 419, 420, 421, 422, 423, 424, 425, 426, 427, 428, 429, 430, 431, 432, 433, 434, 435, 436, 437, 438, 439, 440, 441, 442, 443, 444, 445, 446, 447, 448, 449, 450, 451, 452, 453, 454, 455, 456, 457, 458, 459, 460, 461, 462, 463, 464, 465, 466, 467, 468, 469, 470, 471, 472, 473, 474, 475, 476, 49, 48, 477, 478, 479, 480, 481, 482, 483, 484, 485, 486, 487, 488, 489, 553, 554, 555, 556, 557, 558, 559, 575, 576, 577, 578, 579, 560, 561, 562, 563, 564, 565, 566, 567, 568, 569, 570, 571, 572, 573, 574] (by decide +kernel) (by decide +kernel)) (goodIn_sub (fun _ h => List.mem_append_left _ (List.mem_append_left _ (List.mem_append_right _ h))) (by decide +kernel))) (goodIn_sub (fun _ h => List.mem_append_left _ (List.mem_append_right _ h)) (by decide +kernel))) (goodIn_sub (fun _ h => List.mem_append_right _ h) (by decide +kernel))
set_option maxRecDepth 20000 in
theorem gL_law_L_holds : GoodIn wsL_law (va_wsS RL 206 yL_holds wsL_holds) := goodIn_app (goodIn_of _ (by decide +kernel)) ggL_law_L_holds
theorem dL_law_0 : decode cL_law 0 = .ok (.new 8, 3) := by decide +kernel
theorem dL_law_3 : decode cL_law 3 = .ok (.dup, 1) := by decide +kernel
theorem dL_law_4 : decode cL_law 4 = .ok (.invokespecial 185, 3) := by decide +kernel
theorem dL_law_7 : decode cL_law 7 = .ok (.astore_n 1, 1) := by decide +kernel
theorem dL_law_8 : decode cL_law 8 = .ok (.new 8, 3) := by decide +kernel
theorem dL_law_11 : decode cL_law 11 = .ok (.dup, 1) := by decide +kernel
theorem dL_law_12 : decode cL_law 12 = .ok (.invokespecial 185, 3) := by decide +kernel
theorem dL_law_15 : decode cL_law 15 = .ok (.astore_n 2, 1) := by decide +kernel
theorem dL_law_16 : decode cL_law 16 = .ok (.iconst 4, 1) := by decide +kernel
theorem dL_law_17 : decode cL_law 17 = .ok (.aload_n 0, 1) := by decide +kernel
theorem dL_law_18 : decode cL_law 18 = .ok (.iconst 0, 1) := by decide +kernel
theorem dL_law_19 : decode cL_law 19 = .ok (.invokestatic 186, 3) := by decide +kernel
theorem dL_law_22 : decode cL_law 22 = .ok (.bipush 16, 2) := by decide +kernel
theorem dL_law_24 : decode cL_law 24 = .ok (.irem, 1) := by decide +kernel
theorem dL_law_25 : decode cL_law 25 = .ok (.iadd, 1) := by decide +kernel
theorem dL_law_26 : decode cL_law 26 = .ok (.istore_n 3, 1) := by decide +kernel
theorem dL_law_27 : decode cL_law 27 = .ok (.aload_n 0, 1) := by decide +kernel
theorem dL_law_28 : decode cL_law 28 = .ok (.iconst 1, 1) := by decide +kernel
theorem dL_law_29 : decode cL_law 29 = .ok (.invokestatic 186, 3) := by decide +kernel
theorem dL_law_32 : decode cL_law 32 = .ok (.iconst 2, 1) := by decide +kernel
theorem dL_law_33 : decode cL_law 33 = .ok (.irem, 1) := by decide +kernel
theorem dL_law_34 : decode cL_law 34 = .ok (.ifCond .ne 7, 3) := by decide +kernel
theorem dL_law_37 : decode cL_law 37 = .ok (.iconst 1, 1) := by decide +kernel
theorem dL_law_38 : decode cL_law 38 = .ok (.goto 6, 3) := by decide +kernel
theorem dL_law_41 : decode cL_law 41 = .ok (.iload_n 3, 1) := by decide +kernel
theorem dL_law_42 : decode cL_law 42 = .ok (.iconst 1, 1) := by decide +kernel
theorem dL_law_43 : decode cL_law 43 = .ok (.isub, 1) := by decide +kernel
theorem dL_law_44 : decode cL_law 44 = .ok (.istore 4, 2) := by decide +kernel
theorem dL_law_46 : decode cL_law 46 = .ok (.aload_n 0, 1) := by decide +kernel
theorem dL_law_47 : decode cL_law 47 = .ok (.iconst 2, 1) := by decide +kernel
theorem dL_law_48 : decode cL_law 48 = .ok (.invokestatic 186, 3) := by decide +kernel
theorem dL_law_51 : decode cL_law 51 = .ok (.iconst 5, 1) := by decide +kernel
theorem dL_law_52 : decode cL_law 52 = .ok (.irem, 1) := by decide +kernel
theorem dL_law_53 : decode cL_law 53 = .ok (.istore 5, 2) := by decide +kernel
theorem dL_law_55 : decode cL_law 55 = .ok (.aload_n 1, 1) := by decide +kernel
theorem dL_law_56 : decode cL_law 56 = .ok (.bipush 8, 2) := by decide +kernel
theorem dL_law_58 : decode cL_law 58 = .ok (.iload_n 3, 1) := by decide +kernel
theorem dL_law_59 : decode cL_law 59 = .ok (.iload 4, 2) := by decide +kernel
theorem dL_law_61 : decode cL_law 61 = .ok (.iload 5, 2) := by decide +kernel
theorem dL_law_63 : decode cL_law 63 = .ok (.invokestatic 170, 3) := by decide +kernel
theorem dL_law_66 : decode cL_law 66 = .ok (.iload 4, 2) := by decide +kernel
theorem dL_law_68 : decode cL_law 68 = .ok (.if_icmp .ne 71, 3) := by decide +kernel
theorem dL_law_71 : decode cL_law 71 = .ok (.aload_n 2, 1) := by decide +kernel
theorem dL_law_72 : decode cL_law 72 = .ok (.bipush 8, 2) := by decide +kernel
theorem dL_law_74 : decode cL_law 74 = .ok (.iload_n 3, 1) := by decide +kernel
theorem dL_law_75 : decode cL_law 75 = .ok (.iload 4, 2) := by decide +kernel
theorem dL_law_77 : decode cL_law 77 = .ok (.iload 5, 2) := by decide +kernel
theorem dL_law_79 : decode cL_law 79 = .ok (.invokestatic 170, 3) := by decide +kernel
theorem dL_law_82 : decode cL_law 82 = .ok (.iload 4, 2) := by decide +kernel
theorem dL_law_84 : decode cL_law 84 = .ok (.if_icmp .ne 55, 3) := by decide +kernel
theorem dL_law_87 : decode cL_law 87 = .ok (.aload_n 1, 1) := by decide +kernel
theorem dL_law_88 : decode cL_law 88 = .ok (.bipush 12, 2) := by decide +kernel
theorem dL_law_90 : decode cL_law 90 = .ok (.iconst 0, 1) := by decide +kernel
theorem dL_law_91 : decode cL_law 91 = .ok (.iconst 5, 1) := by decide +kernel
theorem dL_law_92 : decode cL_law 92 = .ok (.aload_n 0, 1) := by decide +kernel
theorem dL_law_93 : decode cL_law 93 = .ok (.iconst 3, 1) := by decide +kernel
theorem dL_law_94 : decode cL_law 94 = .ok (.invokestatic 186, 3) := by decide +kernel
theorem dL_law_97 : decode cL_law 97 = .ok (.bipush 60, 2) := by decide +kernel
theorem dL_law_99 : decode cL_law 99 = .ok (.irem, 1) := by decide +kernel
theorem dL_law_100 : decode cL_law 100 = .ok (.iadd, 1) := by decide +kernel
theorem dL_law_101 : decode cL_law 101 = .ok (.iconst 0, 1) := by decide +kernel
theorem dL_law_102 : decode cL_law 102 = .ok (.invokestatic 170, 3) := by decide +kernel
theorem dL_law_105 : decode cL_law 105 = .ok (.invokestatic 190, 3) := by decide +kernel
theorem dL_law_108 : decode cL_law 108 = .ok (.ifCond .ne 31, 3) := by decide +kernel
theorem dL_law_111 : decode cL_law 111 = .ok (.aload_n 2, 1) := by decide +kernel
theorem dL_law_112 : decode cL_law 112 = .ok (.bipush 12, 2) := by decide +kernel
theorem dL_law_114 : decode cL_law 114 = .ok (.iconst 0, 1) := by decide +kernel
theorem dL_law_115 : decode cL_law 115 = .ok (.iconst 5, 1) := by decide +kernel
theorem dL_law_116 : decode cL_law 116 = .ok (.aload_n 0, 1) := by decide +kernel
theorem dL_law_117 : decode cL_law 117 = .ok (.iconst 3, 1) := by decide +kernel
theorem dL_law_118 : decode cL_law 118 = .ok (.invokestatic 186, 3) := by decide +kernel
theorem dL_law_121 : decode cL_law 121 = .ok (.bipush 60, 2) := by decide +kernel
theorem dL_law_123 : decode cL_law 123 = .ok (.irem, 1) := by decide +kernel
theorem dL_law_124 : decode cL_law 124 = .ok (.iadd, 1) := by decide +kernel
theorem dL_law_125 : decode cL_law 125 = .ok (.iconst 0, 1) := by decide +kernel
theorem dL_law_126 : decode cL_law 126 = .ok (.invokestatic 170, 3) := by decide +kernel
theorem dL_law_129 : decode cL_law 129 = .ok (.invokestatic 190, 3) := by decide +kernel
theorem dL_law_132 : decode cL_law 132 = .ok (.ifCond .ne 7, 3) := by decide +kernel
theorem dL_law_135 : decode cL_law 135 = .ok (.iconst 1, 1) := by decide +kernel
theorem dL_law_136 : decode cL_law 136 = .ok (.goto 4, 3) := by decide +kernel
theorem dL_law_139 : decode cL_law 139 = .ok (.iconst 0, 1) := by decide +kernel
theorem dL_law_140 : decode cL_law 140 = .ok (.istore 6, 2) := by decide +kernel
theorem dL_law_142 : decode cL_law 142 = .ok (.bipush 6, 2) := by decide +kernel
theorem dL_law_144 : decode cL_law 144 = .ok (.aload_n 0, 1) := by decide +kernel
theorem dL_law_145 : decode cL_law 145 = .ok (.iconst 4, 1) := by decide +kernel
theorem dL_law_146 : decode cL_law 146 = .ok (.invokestatic 186, 3) := by decide +kernel
theorem dL_law_149 : decode cL_law 149 = .ok (.bipush 17, 2) := by decide +kernel
theorem dL_law_151 : decode cL_law 151 = .ok (.irem, 1) := by decide +kernel
theorem dL_law_152 : decode cL_law 152 = .ok (.iadd, 1) := by decide +kernel
theorem dL_law_153 : decode cL_law 153 = .ok (.istore 7, 2) := by decide +kernel
theorem dL_law_155 : decode cL_law 155 = .ok (.iconst 0, 1) := by decide +kernel
theorem dL_law_156 : decode cL_law 156 = .ok (.istore 8, 2) := by decide +kernel
theorem dL_law_158 : decode cL_law 158 = .ok (.iload 8, 2) := by decide +kernel
theorem dL_law_160 : decode cL_law 160 = .ok (.iload 7, 2) := by decide +kernel
theorem dL_law_162 : decode cL_law 162 = .ok (.if_icmp .ge 482, 3) := by decide +kernel
theorem dL_law_165 : decode cL_law 165 = .ok (.iload 6, 2) := by decide +kernel
theorem dL_law_167 : decode cL_law 167 = .ok (.ifCond .eq 477, 3) := by decide +kernel
theorem dL_law_170 : decode cL_law 170 = .ok (.aload_n 0, 1) := by decide +kernel
theorem dL_law_171 : decode cL_law 171 = .ok (.iconst 5, 1) := by decide +kernel
theorem dL_law_172 : decode cL_law 172 = .ok (.iload 8, 2) := by decide +kernel
theorem dL_law_174 : decode cL_law 174 = .ok (.iadd, 1) := by decide +kernel
theorem dL_law_175 : decode cL_law 175 = .ok (.invokestatic 186, 3) := by decide +kernel
theorem dL_law_178 : decode cL_law 178 = .ok (.istore 9, 2) := by decide +kernel
theorem dL_law_180 : decode cL_law 180 = .ok (.aload_n 1, 1) := by decide +kernel
theorem dL_law_181 : decode cL_law 181 = .ok (.iload 9, 2) := by decide +kernel
theorem dL_law_183 : decode cL_law 183 = .ok (.invokestatic 194, 3) := by decide +kernel
theorem dL_law_186 : decode cL_law 186 = .ok (.istore 10, 2) := by decide +kernel
theorem dL_law_188 : decode cL_law 188 = .ok (.aload_n 2, 1) := by decide +kernel
theorem dL_law_189 : decode cL_law 189 = .ok (.iload 9, 2) := by decide +kernel
theorem dL_law_191 : decode cL_law 191 = .ok (.ldc 197, 2) := by decide +kernel
theorem dL_law_193 : decode cL_law 193 = .ok (.irem, 1) := by decide +kernel
theorem dL_law_194 : decode cL_law 194 = .ok (.invokestatic 198, 3) := by decide +kernel
theorem dL_law_197 : decode cL_law 197 = .ok (.ifCond .eq 77, 3) := by decide +kernel
theorem dL_law_200 : decode cL_law 200 = .ok (.aload_n 2, 1) := by decide +kernel
theorem dL_law_201 : decode cL_law 201 = .ok (.iload 9, 2) := by decide +kernel
theorem dL_law_203 : decode cL_law 203 = .ok (.invokestatic 194, 3) := by decide +kernel
theorem dL_law_206 : decode cL_law 206 = .ok (.iload 10, 2) := by decide +kernel
theorem dL_law_208 : decode cL_law 208 = .ok (.if_icmp .ne 66, 3) := by decide +kernel
theorem dL_law_211 : decode cL_law 211 = .ok (.aload_n 2, 1) := by decide +kernel
theorem dL_law_212 : decode cL_law 212 = .ok (.iload 9, 2) := by decide +kernel
theorem dL_law_214 : decode cL_law 214 = .ok (.sipush 1000, 3) := by decide +kernel
theorem dL_law_217 : decode cL_law 217 = .ok (.irem, 1) := by decide +kernel
theorem dL_law_218 : decode cL_law 218 = .ok (.invokestatic 198, 3) := by decide +kernel
theorem dL_law_221 : decode cL_law 221 = .ok (.ifCond .eq 53, 3) := by decide +kernel
theorem dL_law_224 : decode cL_law 224 = .ok (.aload_n 1, 1) := by decide +kernel
theorem dL_law_225 : decode cL_law 225 = .ok (.aload_n 2, 1) := by decide +kernel
theorem dL_law_226 : decode cL_law 226 = .ok (.iload 9, 2) := by decide +kernel
theorem dL_law_228 : decode cL_law 228 = .ok (.sipush 5000, 3) := by decide +kernel
theorem dL_law_231 : decode cL_law 231 = .ok (.irem, 1) := by decide +kernel
theorem dL_law_232 : decode cL_law 232 = .ok (.invokestatic 202, 3) := by decide +kernel
theorem dL_law_235 : decode cL_law 235 = .ok (.ifCond .eq 39, 3) := by decide +kernel
theorem dL_law_238 : decode cL_law 238 = .ok (.iload 8, 2) := by decide +kernel
theorem dL_law_240 : decode cL_law 240 = .ok (.iconst 2, 1) := by decide +kernel
theorem dL_law_241 : decode cL_law 241 = .ok (.irem, 1) := by decide +kernel
theorem dL_law_242 : decode cL_law 242 = .ok (.ifCond .ne 17, 3) := by decide +kernel
theorem dL_law_245 : decode cL_law 245 = .ok (.aload_n 1, 1) := by decide +kernel
theorem dL_law_246 : decode cL_law 246 = .ok (.iload 9, 2) := by decide +kernel
theorem dL_law_248 : decode cL_law 248 = .ok (.iconst 3, 1) := by decide +kernel
theorem dL_law_249 : decode cL_law 249 = .ok (.idiv, 1) := by decide +kernel
theorem dL_law_250 : decode cL_law 250 = .ok (.invokestatic 206, 3) := by decide +kernel
theorem dL_law_253 : decode cL_law 253 = .ok (.ifCond .eq 21, 3) := by decide +kernel
theorem dL_law_256 : decode cL_law 256 = .ok (.goto 14, 3) := by decide +kernel
theorem dL_law_259 : decode cL_law 259 = .ok (.aload_n 2, 1) := by decide +kernel
theorem dL_law_260 : decode cL_law 260 = .ok (.iload 9, 2) := by decide +kernel
theorem dL_law_262 : decode cL_law 262 = .ok (.iconst 5, 1) := by decide +kernel
theorem dL_law_263 : decode cL_law 263 = .ok (.idiv, 1) := by decide +kernel
theorem dL_law_264 : decode cL_law 264 = .ok (.invokestatic 206, 3) := by decide +kernel
theorem dL_law_267 : decode cL_law 267 = .ok (.ifCond .eq 7, 3) := by decide +kernel
theorem dL_law_270 : decode cL_law 270 = .ok (.iconst 1, 1) := by decide +kernel
theorem dL_law_271 : decode cL_law 271 = .ok (.goto 4, 3) := by decide +kernel
theorem dL_law_274 : decode cL_law 274 = .ok (.iconst 0, 1) := by decide +kernel
theorem dL_law_275 : decode cL_law 275 = .ok (.istore 6, 2) := by decide +kernel
theorem dL_law_277 : decode cL_law 277 = .ok (.aload_n 1, 1) := by decide +kernel
theorem dL_law_278 : decode cL_law 278 = .ok (.iconst 2, 1) := by decide +kernel
theorem dL_law_279 : decode cL_law 279 = .ok (.iconst 0, 1) := by decide +kernel
theorem dL_law_280 : decode cL_law 280 = .ok (.iconst 0, 1) := by decide +kernel
theorem dL_law_281 : decode cL_law 281 = .ok (.iconst 0, 1) := by decide +kernel
theorem dL_law_282 : decode cL_law 282 = .ok (.invokestatic 170, 3) := by decide +kernel
theorem dL_law_285 : decode cL_law 285 = .ok (.istore 11, 2) := by decide +kernel
theorem dL_law_287 : decode cL_law 287 = .ok (.iload 9, 2) := by decide +kernel
theorem dL_law_289 : decode cL_law 289 = .ok (.bipush 7, 2) := by decide +kernel
theorem dL_law_291 : decode cL_law 291 = .ok (.idiv, 1) := by decide +kernel
theorem dL_law_292 : decode cL_law 292 = .ok (.iload 11, 2) := by decide +kernel
theorem dL_law_294 : decode cL_law 294 = .ok (.irem, 1) := by decide +kernel
theorem dL_law_295 : decode cL_law 295 = .ok (.istore 12, 2) := by decide +kernel
theorem dL_law_297 : decode cL_law 297 = .ok (.iconst 1, 1) := by decide +kernel
theorem dL_law_298 : decode cL_law 298 = .ok (.iload 9, 2) := by decide +kernel
theorem dL_law_300 : decode cL_law 300 = .ok (.sipush 224, 3) := by decide +kernel
theorem dL_law_303 : decode cL_law 303 = .ok (.idiv, 1) := by decide +kernel
theorem dL_law_304 : decode cL_law 304 = .ok (.sipush 300, 3) := by decide +kernel
theorem dL_law_307 : decode cL_law 307 = .ok (.irem, 1) := by decide +kernel
theorem dL_law_308 : decode cL_law 308 = .ok (.iadd, 1) := by decide +kernel
theorem dL_law_309 : decode cL_law 309 = .ok (.istore 13, 2) := by decide +kernel
theorem dL_law_311 : decode cL_law 311 = .ok (.aload_n 1, 1) := by decide +kernel
theorem dL_law_312 : decode cL_law 312 = .ok (.bipush 14, 2) := by decide +kernel
theorem dL_law_314 : decode cL_law 314 = .ok (.iload 12, 2) := by decide +kernel
theorem dL_law_316 : decode cL_law 316 = .ok (.iconst 0, 1) := by decide +kernel
theorem dL_law_317 : decode cL_law 317 = .ok (.iconst 0, 1) := by decide +kernel
theorem dL_law_318 : decode cL_law 318 = .ok (.invokestatic 170, 3) := by decide +kernel
theorem dL_law_321 : decode cL_law 321 = .ok (.istore 14, 2) := by decide +kernel
theorem dL_law_323 : decode cL_law 323 = .ok (.aload_n 1, 1) := by decide +kernel
theorem dL_law_324 : decode cL_law 324 = .ok (.iconst 2, 1) := by decide +kernel
theorem dL_law_325 : decode cL_law 325 = .ok (.iconst 4, 1) := by decide +kernel
theorem dL_law_326 : decode cL_law 326 = .ok (.iconst 0, 1) := by decide +kernel
theorem dL_law_327 : decode cL_law 327 = .ok (.iconst 0, 1) := by decide +kernel
theorem dL_law_328 : decode cL_law 328 = .ok (.invokestatic 170, 3) := by decide +kernel
theorem dL_law_331 : decode cL_law 331 = .ok (.istore 15, 2) := by decide +kernel
theorem dL_law_333 : decode cL_law 333 = .ok (.aload_n 1, 1) := by decide +kernel
theorem dL_law_334 : decode cL_law 334 = .ok (.iconst 2, 1) := by decide +kernel
theorem dL_law_335 : decode cL_law 335 = .ok (.iconst 5, 1) := by decide +kernel
theorem dL_law_336 : decode cL_law 336 = .ok (.iconst 0, 1) := by decide +kernel
theorem dL_law_337 : decode cL_law 337 = .ok (.iconst 0, 1) := by decide +kernel
theorem dL_law_338 : decode cL_law 338 = .ok (.invokestatic 170, 3) := by decide +kernel
theorem dL_law_341 : decode cL_law 341 = .ok (.istore 16, 2) := by decide +kernel
theorem dL_law_343 : decode cL_law 343 = .ok (.aload_n 1, 1) := by decide +kernel
theorem dL_law_344 : decode cL_law 344 = .ok (.bipush 16, 2) := by decide +kernel
theorem dL_law_346 : decode cL_law 346 = .ok (.iload 12, 2) := by decide +kernel
theorem dL_law_348 : decode cL_law 348 = .ok (.aload_n 1, 1) := by decide +kernel
theorem dL_law_349 : decode cL_law 349 = .ok (.bipush 7, 2) := by decide +kernel
theorem dL_law_351 : decode cL_law 351 = .ok (.iconst 1, 1) := by decide +kernel
theorem dL_law_352 : decode cL_law 352 = .ok (.iconst 0, 1) := by decide +kernel
theorem dL_law_353 : decode cL_law 353 = .ok (.iconst 0, 1) := by decide +kernel
theorem dL_law_354 : decode cL_law 354 = .ok (.invokestatic 170, 3) := by decide +kernel
theorem dL_law_357 : decode cL_law 357 = .ok (.iload 13, 2) := by decide +kernel
theorem dL_law_359 : decode cL_law 359 = .ok (.invokestatic 170, 3) := by decide +kernel
theorem dL_law_362 : decode cL_law 362 = .ok (.istore 17, 2) := by decide +kernel
theorem dL_law_364 : decode cL_law 364 = .ok (.aload_n 1, 1) := by decide +kernel
theorem dL_law_365 : decode cL_law 365 = .ok (.iconst 2, 1) := by decide +kernel
theorem dL_law_366 : decode cL_law 366 = .ok (.iconst 2, 1) := by decide +kernel
theorem dL_law_367 : decode cL_law 367 = .ok (.iconst 0, 1) := by decide +kernel
theorem dL_law_368 : decode cL_law 368 = .ok (.iconst 0, 1) := by decide +kernel
theorem dL_law_369 : decode cL_law 369 = .ok (.invokestatic 170, 3) := by decide +kernel
theorem dL_law_372 : decode cL_law 372 = .ok (.istore 18, 2) := by decide +kernel
theorem dL_law_374 : decode cL_law 374 = .ok (.aload_n 1, 1) := by decide +kernel
theorem dL_law_375 : decode cL_law 375 = .ok (.iconst 3, 1) := by decide +kernel
theorem dL_law_376 : decode cL_law 376 = .ok (.iload 12, 2) := by decide +kernel
theorem dL_law_378 : decode cL_law 378 = .ok (.iconst 0, 1) := by decide +kernel
theorem dL_law_379 : decode cL_law 379 = .ok (.iconst 0, 1) := by decide +kernel
theorem dL_law_380 : decode cL_law 380 = .ok (.invokestatic 170, 3) := by decide +kernel
theorem dL_law_383 : decode cL_law 383 = .ok (.istore 19, 2) := by decide +kernel
theorem dL_law_385 : decode cL_law 385 = .ok (.iload 13, 2) := by decide +kernel
theorem dL_law_387 : decode cL_law 387 = .ok (.iload 14, 2) := by decide +kernel
theorem dL_law_389 : decode cL_law 389 = .ok (.if_icmp .ge 8, 3) := by decide +kernel
theorem dL_law_392 : decode cL_law 392 = .ok (.iload 13, 2) := by decide +kernel
theorem dL_law_394 : decode cL_law 394 = .ok (.goto 5, 3) := by decide +kernel
theorem dL_law_397 : decode cL_law 397 = .ok (.iload 14, 2) := by decide +kernel
theorem dL_law_399 : decode cL_law 399 = .ok (.istore 20, 2) := by decide +kernel
theorem dL_law_401 : decode cL_law 401 = .ok (.iload 6, 2) := by decide +kernel
theorem dL_law_403 : decode cL_law 403 = .ok (.ifCond .eq 124, 3) := by decide +kernel
theorem dL_law_406 : decode cL_law 406 = .ok (.aload_n 1, 1) := by decide +kernel
theorem dL_law_407 : decode cL_law 407 = .ok (.bipush 10, 2) := by decide +kernel
theorem dL_law_409 : decode cL_law 409 = .ok (.iload 12, 2) := by decide +kernel
theorem dL_law_411 : decode cL_law 411 = .ok (.iload 13, 2) := by decide +kernel
theorem dL_law_413 : decode cL_law 413 = .ok (.iconst 0, 1) := by decide +kernel
theorem dL_law_414 : decode cL_law 414 = .ok (.invokestatic 170, 3) := by decide +kernel
theorem dL_law_417 : decode cL_law 417 = .ok (.iload 20, 2) := by decide +kernel
theorem dL_law_419 : decode cL_law 419 = .ok (.if_icmp .ne 108, 3) := by decide +kernel
theorem dL_law_422 : decode cL_law 422 = .ok (.aload_n 2, 1) := by decide +kernel
theorem dL_law_423 : decode cL_law 423 = .ok (.bipush 10, 2) := by decide +kernel
theorem dL_law_425 : decode cL_law 425 = .ok (.iload 12, 2) := by decide +kernel
theorem dL_law_427 : decode cL_law 427 = .ok (.iload 13, 2) := by decide +kernel
theorem dL_law_429 : decode cL_law 429 = .ok (.iconst 0, 1) := by decide +kernel
theorem dL_law_430 : decode cL_law 430 = .ok (.invokestatic 170, 3) := by decide +kernel
theorem dL_law_433 : decode cL_law 433 = .ok (.iload 20, 2) := by decide +kernel
theorem dL_law_435 : decode cL_law 435 = .ok (.if_icmp .ne 92, 3) := by decide +kernel
theorem dL_law_438 : decode cL_law 438 = .ok (.aload_n 1, 1) := by decide +kernel
theorem dL_law_439 : decode cL_law 439 = .ok (.iconst 2, 1) := by decide +kernel
theorem dL_law_440 : decode cL_law 440 = .ok (.iconst 4, 1) := by decide +kernel
theorem dL_law_441 : decode cL_law 441 = .ok (.iconst 0, 1) := by decide +kernel
theorem dL_law_442 : decode cL_law 442 = .ok (.iconst 0, 1) := by decide +kernel
theorem dL_law_443 : decode cL_law 443 = .ok (.invokestatic 170, 3) := by decide +kernel
theorem dL_law_446 : decode cL_law 446 = .ok (.iload 15, 2) := by decide +kernel
theorem dL_law_448 : decode cL_law 448 = .ok (.iload 20, 2) := by decide +kernel
theorem dL_law_450 : decode cL_law 450 = .ok (.iadd, 1) := by decide +kernel
theorem dL_law_451 : decode cL_law 451 = .ok (.if_icmp .ne 76, 3) := by decide +kernel
theorem dL_law_454 : decode cL_law 454 = .ok (.aload_n 1, 1) := by decide +kernel
theorem dL_law_455 : decode cL_law 455 = .ok (.iconst 2, 1) := by decide +kernel
theorem dL_law_456 : decode cL_law 456 = .ok (.bipush 6, 2) := by decide +kernel
theorem dL_law_458 : decode cL_law 458 = .ok (.iconst 0, 1) := by decide +kernel
theorem dL_law_459 : decode cL_law 459 = .ok (.iconst 0, 1) := by decide +kernel
theorem dL_law_460 : decode cL_law 460 = .ok (.invokestatic 170, 3) := by decide +kernel
theorem dL_law_463 : decode cL_law 463 = .ok (.iload 17, 2) := by decide +kernel
theorem dL_law_465 : decode cL_law 465 = .ok (.if_icmp .ne 62, 3) := by decide +kernel
theorem dL_law_468 : decode cL_law 468 = .ok (.aload_n 1, 1) := by decide +kernel
theorem dL_law_469 : decode cL_law 469 = .ok (.iconst 3, 1) := by decide +kernel
theorem dL_law_470 : decode cL_law 470 = .ok (.iload 12, 2) := by decide +kernel
theorem dL_law_472 : decode cL_law 472 = .ok (.iconst 0, 1) := by decide +kernel
theorem dL_law_473 : decode cL_law 473 = .ok (.iconst 0, 1) := by decide +kernel
theorem dL_law_474 : decode cL_law 474 = .ok (.invokestatic 170, 3) := by decide +kernel
theorem dL_law_477 : decode cL_law 477 = .ok (.iload 19, 2) := by decide +kernel
theorem dL_law_479 : decode cL_law 479 = .ok (.if_icmp .ne 48, 3) := by decide +kernel
theorem dL_law_482 : decode cL_law 482 = .ok (.aload_n 1, 1) := by decide +kernel
theorem dL_law_483 : decode cL_law 483 = .ok (.iconst 2, 1) := by decide +kernel
theorem dL_law_484 : decode cL_law 484 = .ok (.bipush 9, 2) := by decide +kernel
theorem dL_law_486 : decode cL_law 486 = .ok (.iconst 0, 1) := by decide +kernel
theorem dL_law_487 : decode cL_law 487 = .ok (.iconst 0, 1) := by decide +kernel
theorem dL_law_488 : decode cL_law 488 = .ok (.invokestatic 170, 3) := by decide +kernel
theorem dL_law_491 : decode cL_law 491 = .ok (.iconst 1, 1) := by decide +kernel
theorem dL_law_492 : decode cL_law 492 = .ok (.if_icmp .ne 7, 3) := by decide +kernel
theorem dL_law_495 : decode cL_law 495 = .ok (.iconst 1, 1) := by decide +kernel
theorem dL_law_496 : decode cL_law 496 = .ok (.goto 4, 3) := by decide +kernel
theorem dL_law_499 : decode cL_law 499 = .ok (.iconst 0, 1) := by decide +kernel
theorem dL_law_500 : decode cL_law 500 = .ok (.iload 14, 2) := by decide +kernel
theorem dL_law_502 : decode cL_law 502 = .ok (.iload 13, 2) := by decide +kernel
theorem dL_law_504 : decode cL_law 504 = .ok (.if_icmp .gt 15, 3) := by decide +kernel
theorem dL_law_507 : decode cL_law 507 = .ok (.iload 14, 2) := by decide +kernel
theorem dL_law_509 : decode cL_law 509 = .ok (.sipush 2000, 3) := by decide +kernel
theorem dL_law_512 : decode cL_law 512 = .ok (.if_icmp .ge 7, 3) := by decide +kernel
theorem dL_law_515 : decode cL_law 515 = .ok (.iconst 1, 1) := by decide +kernel
theorem dL_law_516 : decode cL_law 516 = .ok (.goto 4, 3) := by decide +kernel
theorem dL_law_519 : decode cL_law 519 = .ok (.iconst 0, 1) := by decide +kernel
theorem dL_law_520 : decode cL_law 520 = .ok (.if_icmp .ne 7, 3) := by decide +kernel
theorem dL_law_523 : decode cL_law 523 = .ok (.iconst 1, 1) := by decide +kernel
theorem dL_law_524 : decode cL_law 524 = .ok (.goto 4, 3) := by decide +kernel
theorem dL_law_527 : decode cL_law 527 = .ok (.iconst 0, 1) := by decide +kernel
theorem dL_law_528 : decode cL_law 528 = .ok (.istore 6, 2) := by decide +kernel
theorem dL_law_530 : decode cL_law 530 = .ok (.aload_n 1, 1) := by decide +kernel
theorem dL_law_531 : decode cL_law 531 = .ok (.iconst 2, 1) := by decide +kernel
theorem dL_law_532 : decode cL_law 532 = .ok (.iconst 5, 1) := by decide +kernel
theorem dL_law_533 : decode cL_law 533 = .ok (.iconst 0, 1) := by decide +kernel
theorem dL_law_534 : decode cL_law 534 = .ok (.iconst 0, 1) := by decide +kernel
theorem dL_law_535 : decode cL_law 535 = .ok (.invokestatic 170, 3) := by decide +kernel
theorem dL_law_538 : decode cL_law 538 = .ok (.iload 16, 2) := by decide +kernel
theorem dL_law_540 : decode cL_law 540 = .ok (.isub, 1) := by decide +kernel
theorem dL_law_541 : decode cL_law 541 = .ok (.istore 21, 2) := by decide +kernel
theorem dL_law_543 : decode cL_law 543 = .ok (.aload_n 1, 1) := by decide +kernel
theorem dL_law_544 : decode cL_law 544 = .ok (.iconst 4, 1) := by decide +kernel
theorem dL_law_545 : decode cL_law 545 = .ok (.iload 12, 2) := by decide +kernel
theorem dL_law_547 : decode cL_law 547 = .ok (.iconst 0, 1) := by decide +kernel
theorem dL_law_548 : decode cL_law 548 = .ok (.iconst 0, 1) := by decide +kernel
theorem dL_law_549 : decode cL_law 549 = .ok (.invokestatic 170, 3) := by decide +kernel
theorem dL_law_552 : decode cL_law 552 = .ok (.istore 22, 2) := by decide +kernel
theorem dL_law_554 : decode cL_law 554 = .ok (.iload 6, 2) := by decide +kernel
theorem dL_law_556 : decode cL_law 556 = .ok (.ifCond .eq 79, 3) := by decide +kernel
theorem dL_law_559 : decode cL_law 559 = .ok (.aload_n 1, 1) := by decide +kernel
theorem dL_law_560 : decode cL_law 560 = .ok (.bipush 13, 2) := by decide +kernel
theorem dL_law_562 : decode cL_law 562 = .ok (.iconst 0, 1) := by decide +kernel
theorem dL_law_563 : decode cL_law 563 = .ok (.iconst 0, 1) := by decide +kernel
theorem dL_law_564 : decode cL_law 564 = .ok (.iconst 0, 1) := by decide +kernel
theorem dL_law_565 : decode cL_law 565 = .ok (.invokestatic 170, 3) := by decide +kernel
theorem dL_law_568 : decode cL_law 568 = .ok (.invokestatic 190, 3) := by decide +kernel
theorem dL_law_571 : decode cL_law 571 = .ok (.ifCond .ne 64, 3) := by decide +kernel
theorem dL_law_574 : decode cL_law 574 = .ok (.aload_n 2, 1) := by decide +kernel
theorem dL_law_575 : decode cL_law 575 = .ok (.bipush 13, 2) := by decide +kernel
theorem dL_law_577 : decode cL_law 577 = .ok (.iconst 0, 1) := by decide +kernel
theorem dL_law_578 : decode cL_law 578 = .ok (.iconst 0, 1) := by decide +kernel
theorem dL_law_579 : decode cL_law 579 = .ok (.iconst 0, 1) := by decide +kernel
theorem dL_law_580 : decode cL_law 580 = .ok (.invokestatic 170, 3) := by decide +kernel
theorem dL_law_583 : decode cL_law 583 = .ok (.invokestatic 190, 3) := by decide +kernel
theorem dL_law_586 : decode cL_law 586 = .ok (.ifCond .ne 49, 3) := by decide +kernel
theorem dL_law_589 : decode cL_law 589 = .ok (.aload_n 1, 1) := by decide +kernel
theorem dL_law_590 : decode cL_law 590 = .ok (.bipush 19, 2) := by decide +kernel
theorem dL_law_592 : decode cL_law 592 = .ok (.iload 12, 2) := by decide +kernel
theorem dL_law_594 : decode cL_law 594 = .ok (.iload 21, 2) := by decide +kernel
theorem dL_law_596 : decode cL_law 596 = .ok (.iconst 0, 1) := by decide +kernel
theorem dL_law_597 : decode cL_law 597 = .ok (.invokestatic 170, 3) := by decide +kernel
theorem dL_law_600 : decode cL_law 600 = .ok (.iload 22, 2) := by decide +kernel
theorem dL_law_602 : decode cL_law 602 = .ok (.if_icmp .ne 33, 3) := by decide +kernel
theorem dL_law_605 : decode cL_law 605 = .ok (.aload_n 1, 1) := by decide +kernel
theorem dL_law_606 : decode cL_law 606 = .ok (.iconst 2, 1) := by decide +kernel
theorem dL_law_607 : decode cL_law 607 = .ok (.iconst 4, 1) := by decide +kernel
theorem dL_law_608 : decode cL_law 608 = .ok (.iconst 0, 1) := by decide +kernel
theorem dL_law_609 : decode cL_law 609 = .ok (.iconst 0, 1) := by decide +kernel
theorem dL_law_610 : decode cL_law 610 = .ok (.invokestatic 170, 3) := by decide +kernel
theorem dL_law_613 : decode cL_law 613 = .ok (.iload 15, 2) := by decide +kernel
theorem dL_law_615 : decode cL_law 615 = .ok (.if_icmp .ne 20, 3) := by decide +kernel
theorem dL_law_618 : decode cL_law 618 = .ok (.aload_n 1, 1) := by decide +kernel
theorem dL_law_619 : decode cL_law 619 = .ok (.iconst 2, 1) := by decide +kernel
theorem dL_law_620 : decode cL_law 620 = .ok (.iconst 2, 1) := by decide +kernel
theorem dL_law_621 : decode cL_law 621 = .ok (.iconst 0, 1) := by decide +kernel
theorem dL_law_622 : decode cL_law 622 = .ok (.iconst 0, 1) := by decide +kernel
theorem dL_law_623 : decode cL_law 623 = .ok (.invokestatic 170, 3) := by decide +kernel
theorem dL_law_626 : decode cL_law 626 = .ok (.iload 18, 2) := by decide +kernel
theorem dL_law_628 : decode cL_law 628 = .ok (.if_icmp .ne 7, 3) := by decide +kernel
theorem dL_law_631 : decode cL_law 631 = .ok (.iconst 1, 1) := by decide +kernel
theorem dL_law_632 : decode cL_law 632 = .ok (.goto 4, 3) := by decide +kernel
theorem dL_law_635 : decode cL_law 635 = .ok (.iconst 0, 1) := by decide +kernel
theorem dL_law_636 : decode cL_law 636 = .ok (.istore 6, 2) := by decide +kernel
theorem dL_law_638 : decode cL_law 638 = .ok (.iinc 8 1, 3) := by decide +kernel
theorem dL_law_641 : decode cL_law 641 = .ok (.goto (-483), 3) := by decide +kernel
theorem dL_law_644 : decode cL_law 644 = .ok (.iload 6, 2) := by decide +kernel
theorem dL_law_646 : decode cL_law 646 = .ok (.ireturn, 1) := by decide +kernel
end
