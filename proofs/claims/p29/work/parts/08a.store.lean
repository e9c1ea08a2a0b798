/-! THE STORE'S OWN METHODS -/
theorem gIf_i {β : Type} {c : Prop} [Decidable c] {a b : β} {P : β → Prop} (ha : c → P a) (hb : ¬ c → P b) : P (if c then a else b) := by
  by_cases h : c
  · rw [if_pos h]; exact ha h
  · rw [if_neg h]; exact hb h
theorem gLet_i {α β : Type} {a : α} {f : α → β} {P : β → Prop} (h : ∀ b, a = b → P (f b)) : P (gLet a f) := h a rfl
def okC (r : gR) : Prop := 0 ≤ (r 0).toInt ∧ (r 0).toInt ≤ 32 ∧ (r 8 = 0 ∨ r 8 = 1)
theorem upd_ne {f : Nat → Int32} {k j : Nat} {x : Int32} (h : j ≠ k) : upd f k x j = f j := by unfold upd; rw [if_neg h]
theorem upd_eq {f : Nat → Int32} {k : Nat} {x : Int32} : upd f k x k = x := by unfold upd; rw [if_pos rfl]
theorem ok_upd {r : gR} {k : Nat} {x : Int32} (hk : k ≠ 0 ∧ k ≠ 8) (h : okC r) : okC (upd r k x) := by
  unfold okC at h ⊢
  rw [upd_ne (fun e => hk.1 e.symm), upd_ne (fun e => hk.2 e.symm)]
  exact h
theorem ok_upd8 {r : gR} {x : Int32} (hx : x = 0 ∨ x = 1) (h : okC r) : okC (upd r 8 x) := by
  unfold okC at h ⊢
  rw [upd_ne (by decide), upd_eq]
  exact ⟨h.1, h.2.1, hx⟩
theorem bo_nar {x v : Int32} (h : x = 0 ∨ x = 1) (e : x = v) : narrow .boolean (.int v) = .int v := by
  subst e; rcases h with h | h <;> rw [h] <;> rfl
theorem ok_nar {r : gR} (h : okC r) : narrow .boolean (.int (r 8)) = .int (r 8) := bo_nar h.2.2 rfl
theorem ok_fit {r : gR} (h : okC r) : fits .boolean (.int (r 8)) = true := by rcases h.2.2 with h | h <;> rw [h] <;> rfl
theorem dv_pos {a b : Int32} (h1 : ¬ a < 0) (h2 : ¬ b ≤ a) : ¬ b = 0 := by
  intro h; subst h
  exact h2 (Int32.not_lt.mp h1)
theorem vp_lt {i : Int32} {n : Nat} (h : vp_in i n) : i.toNatClampNeg < n := Nat.not_le.mp fun q => h (Or.inr q)
theorem sw_ne {x k : Int32} {n : Int} (h : ¬ x = k) (hk : k.toInt = n) : x.toInt ≠ n := fun e => h (i_eq.mpr (e.trans hk.symm))
theorem lp_le {x m : Int32} {n : Nat} (h : ¬ m < x) (hm : m.toInt ≤ 32) (hμ : (m.toInt + 1 - x.toInt).toNat < n + 1) : (m.toInt + 1 - (x + 1).toInt).toNat < n := by
  have h1 := i_le.mp (Int32.not_lt.mp h)
  have h3 := i_lo x
  have e : (1 : Int32).toInt = 1 := by decide
  rw [i_add (by omega) (by omega), e]
  omega
theorem up_nn {x m : Int32} (h : ¬ m < x) (hm : m.toInt ≤ 32) (h0 : 0 ≤ x.toInt) : 0 ≤ (x + 1).toInt := by
  have h1 := i_le.mp (Int32.not_lt.mp h)
  have e : (1 : Int32).toInt = 1 := by decide
  rw [i_add (by omega) (by omega), e]
  omega
theorem ix_le {x m : Int32} (h0 : 0 ≤ x.toInt) (h : ¬ m < x) (hm : m.toInt ≤ 32) : vp_in x 33 := by
  have h1 := i_le.mp (Int32.not_lt.mp h)
  exact xin2 h0 (by omega)
theorem ix_btw {x m : Int32} {n : Nat} (h0 : ¬ x < 0) (h : ¬ m < x) (hm : m.toInt < n) : vp_in x n := by
  have h1 := i_le.mp (Int32.not_lt.mp h)
  have h2 := i_le.mp (Int32.not_lt.mp h0)
  have e : (0 : Int32).toInt = 0 := by decide
  rw [e] at h2
  exact xin2 h2 (by omega)
theorem ix_btl {x m : Int32} {n : Nat} (h0 : ¬ x < 0) (h : ¬ m ≤ x) (hm : m.toInt ≤ n) : vp_in x n := by
  have h1 := i_lt.mp (Int32.not_le.mp h)
  have h2 := i_le.mp (Int32.not_lt.mp h0)
  have e : (0 : Int32).toInt = 0 := by decide
  rw [e] at h2
  exact xin2 h2 (by omega)
theorem ix_btL {x m : Int32} {n : Nat} (h0 : 0 ≤ x.toInt) (h : ¬ m ≤ x) (hm : m.toInt ≤ n) : vp_in x n := by
  have h1 := i_lt.mp (Int32.not_le.mp h)
  exact xin2 h0 (by omega)
theorem ne_p1 {a : Int32} (h0 : 0 ≤ a.toInt) (h1 : a.toInt ≤ 32) : ¬ a + 1 = 0 := by
  intro h
  have h2 := i_eq.mp h
  have e : (1 : Int32).toInt = 1 := by decide
  have e0 : (0 : Int32).toInt = 0 := by decide
  rw [i_add (by omega) (by omega), e, e0] at h2
  omega
theorem xcpy {f g : Nat → Int32} {n j : Nat} (hj : j < n) : va_cpy f g 0 0 n j = f j := by
  unfold va_cpy
  rw [if_pos ⟨Nat.zero_le _, by omega⟩]
  congr 1
  omega
theorem up_nn2 {x m : Int32} (h : ¬ m ≤ x) (h0 : 0 ≤ x.toInt) : 0 ≤ (x + 1).toInt := by
  rw [i_up (Int32.not_le.mp h)]
  omega

def f_X5_isValue (p0 : Int32) : Int32 :=
    if p0 < 0 then
    0
  else
    if 999 < p0 then
      0
    else
      1
theorem f_X5_isValue_s (p0 : Int32) : f_X5_isValue p0 =
    (if p0 < 0 then
    0
  else
    if 999 < p0 then
      0
    else
      1) := rfl
theorem bo_X5_isValue (p0 : Int32) : f_X5_isValue p0 = 0 ∨ f_X5_isValue p0 = 1 := by
  unfold f_X5_isValue
  repeat' split
  all_goals first | exact Or.inl rfl | exact Or.inr rfl
theorem hd_X5_isValue : yX5_isValue.cls ≠ "java/lang/invoke/MethodHandle" ∧ yX5_isValue.cls ≠ "java/lang/invoke/VarHandle" ∧ (parseMethodDescriptor yX5_isValue.desc).map (fun d => d.parameters.length) = some 1 := by decide +kernel
set_option maxHeartbeats 4000000 in
set_option maxRecDepth 100000 in
theorem c_X5_isValue (l : Launch) (D : va_G) (y : Nat → ClassId) (zh : Nat) (p0 : Int32) : Met l yX5_isValue wsX5_isValue ({ frames := 0, cells := 0, slots := 0, locals := 0 }) (gP D y [.int p0] zh []) (vp_Si (fun v : Int32 => f_X5_isValue p0 = v)) 0 0 (fun _ => False) := by
  refine Met.ofW (cc := cX5_isValue) (maxL := 1) (ret := (some .boolean)) (by decide) rfl ?_
  intro p e s m args below meth c s₁ B hml hv
  obtain ⟨rfl, hsz, hP, hE, hD⟩ := hv
  have hx := B.exec
  have hb := B.bytes
  have hr := B.returns
  have hts := atoms_spec (ws := wsX5_isValue) B.pre
  have hown : s.vm.findClass RX5 = some m.cls := findClass_of_methodNamed B.named
  have hlocks := B.notSynchronized
  have hl := lv_entry ([.int p0]) (n := 1) (Nat.le_of_ble_eq_true rfl)
  rw [lg_entry_eq]
  generalize (lg_sl ([.int p0]) ++ List.replicate (1 - (lg_sl ([.int p0])).length) Slot.unset).toArray = ls at hl ⊢
  have hl : lv_has ls 1 [(0, .int p0)] := hl
  have hF := f_X5_isValue_s p0
  refine lv_iload_n hx hb dX5_isValue_0 rfl (lv_at hl 0 rfl) ?_
  refine lv_if_lt (tgt := 15) hx hb dX5_isValue_1 (by decide) (fun c_1 => ?_) (fun c_1 => ?_)
  · have hF := hF.trans (if_pos c_1)
    refine lv_iconst (v := 0) hx hb dX5_isValue_15 (by decide) ?_
    exact W.zret (v := 0) hx hb hr rfl (fun t ht hW => ⟨0, rfl, hF, ht⟩) (fun _ h => nomatch h) dX5_isValue_16
  · have hF := hF.trans (if_neg c_1)
    refine lv_iload_n hx hb dX5_isValue_4 rfl (lv_at hl 0 rfl) ?_
    refine lv_sipush (v := 999) hx hb dX5_isValue_5 (by decide) ?_
    refine lv_icmp_gt (tgt := 15) hx hb dX5_isValue_8 (by decide) (fun c_2 => ?_) (fun c_2 => ?_)
    · have hF := hF.trans (if_pos c_2)
      refine lv_iconst (v := 0) hx hb dX5_isValue_15 (by decide) ?_
      exact W.zret (v := 0) hx hb hr rfl (fun t ht hW => ⟨0, rfl, hF, ht⟩) (fun _ h => nomatch h) dX5_isValue_16
    · have hF := hF.trans (if_neg c_2)
      refine lv_iconst (v := 1) hx hb dX5_isValue_11 (by decide) ?_
      refine lv_goto (tgt := 16) hx hb dX5_isValue_12 (by decide) ?_
      exact W.zret (v := 1) hx hb hr rfl (fun t ht hW => ⟨1, rfl, hF, ht⟩) (fun _ h => nomatch h) dX5_isValue_16

def f_X5_isHammered (p0 : Int32) : Int32 :=
    if p0 < 1 then
    0
  else
    if 500 < p0 then
      0
    else
      1
theorem f_X5_isHammered_s (p0 : Int32) : f_X5_isHammered p0 =
    (if p0 < 1 then
    0
  else
    if 500 < p0 then
      0
    else
      1) := rfl
theorem bo_X5_isHammered (p0 : Int32) : f_X5_isHammered p0 = 0 ∨ f_X5_isHammered p0 = 1 := by
  unfold f_X5_isHammered
  repeat' split
  all_goals first | exact Or.inl rfl | exact Or.inr rfl
theorem hd_X5_isHammered : yX5_isHammered.cls ≠ "java/lang/invoke/MethodHandle" ∧ yX5_isHammered.cls ≠ "java/lang/invoke/VarHandle" ∧ (parseMethodDescriptor yX5_isHammered.desc).map (fun d => d.parameters.length) = some 1 := by decide +kernel
set_option maxHeartbeats 4000000 in
set_option maxRecDepth 100000 in
theorem c_X5_isHammered (l : Launch) (D : va_G) (y : Nat → ClassId) (zh : Nat) (p0 : Int32) : Met l yX5_isHammered wsX5_isHammered ({ frames := 0, cells := 0, slots := 0, locals := 0 }) (gP D y [.int p0] zh []) (vp_Si (fun v : Int32 => f_X5_isHammered p0 = v)) 0 0 (fun _ => False) := by
  refine Met.ofW (cc := cX5_isHammered) (maxL := 1) (ret := (some .boolean)) (by decide) rfl ?_
  intro p e s m args below meth c s₁ B hml hv
  obtain ⟨rfl, hsz, hP, hE, hD⟩ := hv
  have hx := B.exec
  have hb := B.bytes
  have hr := B.returns
  have hts := atoms_spec (ws := wsX5_isHammered) B.pre
  have hown : s.vm.findClass RX5 = some m.cls := findClass_of_methodNamed B.named
  have hlocks := B.notSynchronized
  have hl := lv_entry ([.int p0]) (n := 1) (Nat.le_of_ble_eq_true rfl)
  rw [lg_entry_eq]
  generalize (lg_sl ([.int p0]) ++ List.replicate (1 - (lg_sl ([.int p0])).length) Slot.unset).toArray = ls at hl ⊢
  have hl : lv_has ls 1 [(0, .int p0)] := hl
  have hF := f_X5_isHammered_s p0
  refine lv_iload_n hx hb dX5_isHammered_0 rfl (lv_at hl 0 rfl) ?_
  refine lv_iconst (v := 1) hx hb dX5_isHammered_1 (by decide) ?_
  refine lv_icmp_lt (tgt := 16) hx hb dX5_isHammered_2 (by decide) (fun c_1 => ?_) (fun c_1 => ?_)
  · have hF := hF.trans (if_pos c_1)
    refine lv_iconst (v := 0) hx hb dX5_isHammered_16 (by decide) ?_
    exact W.zret (v := 0) hx hb hr rfl (fun t ht hW => ⟨0, rfl, hF, ht⟩) (fun _ h => nomatch h) dX5_isHammered_17
  · have hF := hF.trans (if_neg c_1)
    refine lv_iload_n hx hb dX5_isHammered_5 rfl (lv_at hl 0 rfl) ?_
    refine lv_sipush (v := 500) hx hb dX5_isHammered_6 (by decide) ?_
    refine lv_icmp_gt (tgt := 16) hx hb dX5_isHammered_9 (by decide) (fun c_2 => ?_) (fun c_2 => ?_)
    · have hF := hF.trans (if_pos c_2)
      refine lv_iconst (v := 0) hx hb dX5_isHammered_16 (by decide) ?_
      exact W.zret (v := 0) hx hb hr rfl (fun t ht hW => ⟨0, rfl, hF, ht⟩) (fun _ h => nomatch h) dX5_isHammered_17
    · have hF := hF.trans (if_neg c_2)
      refine lv_iconst (v := 1) hx hb dX5_isHammered_12 (by decide) ?_
      refine lv_goto (tgt := 17) hx hb dX5_isHammered_13 (by decide) ?_
      exact W.zret (v := 1) hx hb hr rfl (fun t ht hW => ⟨1, rfl, hF, ht⟩) (fun _ h => nomatch h) dX5_isHammered_17

def f_X5_isRounds (p0 : Int32) : Int32 :=
    if p0 < 1 then
    0
  else
    if 50 < p0 then
      0
    else
      1
theorem f_X5_isRounds_s (p0 : Int32) : f_X5_isRounds p0 =
    (if p0 < 1 then
    0
  else
    if 50 < p0 then
      0
    else
      1) := rfl
theorem bo_X5_isRounds (p0 : Int32) : f_X5_isRounds p0 = 0 ∨ f_X5_isRounds p0 = 1 := by
  unfold f_X5_isRounds
  repeat' split
  all_goals first | exact Or.inl rfl | exact Or.inr rfl
theorem hd_X5_isRounds : yX5_isRounds.cls ≠ "java/lang/invoke/MethodHandle" ∧ yX5_isRounds.cls ≠ "java/lang/invoke/VarHandle" ∧ (parseMethodDescriptor yX5_isRounds.desc).map (fun d => d.parameters.length) = some 1 := by decide +kernel
set_option maxHeartbeats 4000000 in
set_option maxRecDepth 100000 in
theorem c_X5_isRounds (l : Launch) (D : va_G) (y : Nat → ClassId) (zh : Nat) (p0 : Int32) : Met l yX5_isRounds wsX5_isRounds ({ frames := 0, cells := 0, slots := 0, locals := 0 }) (gP D y [.int p0] zh []) (vp_Si (fun v : Int32 => f_X5_isRounds p0 = v)) 0 0 (fun _ => False) := by
  refine Met.ofW (cc := cX5_isRounds) (maxL := 1) (ret := (some .boolean)) (by decide) rfl ?_
  intro p e s m args below meth c s₁ B hml hv
  obtain ⟨rfl, hsz, hP, hE, hD⟩ := hv
  have hx := B.exec
  have hb := B.bytes
  have hr := B.returns
  have hts := atoms_spec (ws := wsX5_isRounds) B.pre
  have hown : s.vm.findClass RX5 = some m.cls := findClass_of_methodNamed B.named
  have hlocks := B.notSynchronized
  have hl := lv_entry ([.int p0]) (n := 1) (Nat.le_of_ble_eq_true rfl)
  rw [lg_entry_eq]
  generalize (lg_sl ([.int p0]) ++ List.replicate (1 - (lg_sl ([.int p0])).length) Slot.unset).toArray = ls at hl ⊢
  have hl : lv_has ls 1 [(0, .int p0)] := hl
  have hF := f_X5_isRounds_s p0
  refine lv_iload_n hx hb dX5_isRounds_0 rfl (lv_at hl 0 rfl) ?_
  refine lv_iconst (v := 1) hx hb dX5_isRounds_1 (by decide) ?_
  refine lv_icmp_lt (tgt := 15) hx hb dX5_isRounds_2 (by decide) (fun c_1 => ?_) (fun c_1 => ?_)
  · have hF := hF.trans (if_pos c_1)
    refine lv_iconst (v := 0) hx hb dX5_isRounds_15 (by decide) ?_
    exact W.zret (v := 0) hx hb hr rfl (fun t ht hW => ⟨0, rfl, hF, ht⟩) (fun _ h => nomatch h) dX5_isRounds_16
  · have hF := hF.trans (if_neg c_1)
    refine lv_iload_n hx hb dX5_isRounds_5 rfl (lv_at hl 0 rfl) ?_
    refine lv_bipush (v := 50) hx hb dX5_isRounds_6 (by decide) ?_
    refine lv_icmp_gt (tgt := 15) hx hb dX5_isRounds_8 (by decide) (fun c_2 => ?_) (fun c_2 => ?_)
    · have hF := hF.trans (if_pos c_2)
      refine lv_iconst (v := 0) hx hb dX5_isRounds_15 (by decide) ?_
      exact W.zret (v := 0) hx hb hr rfl (fun t ht hW => ⟨0, rfl, hF, ht⟩) (fun _ h => nomatch h) dX5_isRounds_16
    · have hF := hF.trans (if_neg c_2)
      refine lv_iconst (v := 1) hx hb dX5_isRounds_11 (by decide) ?_
      refine lv_goto (tgt := 16) hx hb dX5_isRounds_12 (by decide) ?_
      exact W.zret (v := 1) hx hb hr rfl (fun t ht hW => ⟨1, rfl, hF, ht⟩) (fun _ h => nomatch h) dX5_isRounds_16

def f_X5_isSettingValue (p0 : Int32) (p1 : Int32) : Int32 :=
    if p0 = 0 then
    if p1 < 5 then
      0
    else
      if 999 < p1 then
        0
      else
        1
  else
    if p0 = 1 then
      if p1 < 1 then
        0
      else
        if 50 < p1 then
          0
        else
          1
    else
      0
theorem f_X5_isSettingValue_s (p0 : Int32) (p1 : Int32) : f_X5_isSettingValue p0 p1 =
    (if p0 = 0 then
    if p1 < 5 then
      0
    else
      if 999 < p1 then
        0
      else
        1
  else
    if p0 = 1 then
      if p1 < 1 then
        0
      else
        if 50 < p1 then
          0
        else
          1
    else
      0) := rfl
theorem bo_X5_isSettingValue (p0 : Int32) (p1 : Int32) : f_X5_isSettingValue p0 p1 = 0 ∨ f_X5_isSettingValue p0 p1 = 1 := by
  unfold f_X5_isSettingValue
  repeat' split
  all_goals first | exact Or.inl rfl | exact Or.inr rfl
theorem hd_X5_isSettingValue : yX5_isSettingValue.cls ≠ "java/lang/invoke/MethodHandle" ∧ yX5_isSettingValue.cls ≠ "java/lang/invoke/VarHandle" ∧ (parseMethodDescriptor yX5_isSettingValue.desc).map (fun d => d.parameters.length) = some 2 := by decide +kernel
set_option maxHeartbeats 4000000 in
set_option maxRecDepth 100000 in
theorem c_X5_isSettingValue (l : Launch) (D : va_G) (y : Nat → ClassId) (zh : Nat) (p0 : Int32) (p1 : Int32) : Met l yX5_isSettingValue wsX5_isSettingValue ({ frames := 0, cells := 0, slots := 0, locals := 0 }) (gP D y [.int p0, .int p1] zh []) (vp_Si (fun v : Int32 => f_X5_isSettingValue p0 p1 = v)) 0 0 (fun _ => False) := by
  refine Met.ofW (cc := cX5_isSettingValue) (maxL := 2) (ret := (some .boolean)) (by decide) rfl ?_
  intro p e s m args below meth c s₁ B hml hv
  obtain ⟨rfl, hsz, hP, hE, hD⟩ := hv
  have hx := B.exec
  have hb := B.bytes
  have hr := B.returns
  have hts := atoms_spec (ws := wsX5_isSettingValue) B.pre
  have hown : s.vm.findClass RX5 = some m.cls := findClass_of_methodNamed B.named
  have hlocks := B.notSynchronized
  have hl := lv_entry ([.int p0, .int p1]) (n := 2) (Nat.le_of_ble_eq_true rfl)
  rw [lg_entry_eq]
  generalize (lg_sl ([.int p0, .int p1]) ++ List.replicate (2 - (lg_sl ([.int p0, .int p1])).length) Slot.unset).toArray = ls at hl ⊢
  have hl : lv_has ls 2 [(0, .int p0), (1, .int p1)] := hl
  have hF := f_X5_isSettingValue_s p0 p1
  refine lv_iload_n hx hb dX5_isSettingValue_0 rfl (lv_at hl 0 rfl) ?_
  refine lv_if_ne (tgt := 22) hx hb dX5_isSettingValue_1 (by decide) (fun c_1 => ?_) (fun c_1 => ?_)
  · have hF := hF.trans (if_neg c_1)
    refine lv_iload_n hx hb dX5_isSettingValue_22 rfl (lv_at hl 0 rfl) ?_
    refine lv_iconst (v := 1) hx hb dX5_isSettingValue_23 (by decide) ?_
    refine lv_icmp_ne (tgt := 42) hx hb dX5_isSettingValue_24 (by decide) (fun c_2 => ?_) (fun c_2 => ?_)
    · have hF := hF.trans (if_neg c_2)
      refine lv_iconst (v := 0) hx hb dX5_isSettingValue_42 (by decide) ?_
      exact W.zret (v := 0) hx hb hr rfl (fun t ht hW => ⟨0, rfl, hF, ht⟩) (fun _ h => nomatch h) dX5_isSettingValue_43
    · have hF := hF.trans (if_pos c_2)
      refine lv_iload_n hx hb dX5_isSettingValue_27 rfl (lv_at hl 1 rfl) ?_
      refine lv_iconst (v := 1) hx hb dX5_isSettingValue_28 (by decide) ?_
      refine lv_icmp_lt (tgt := 42) hx hb dX5_isSettingValue_29 (by decide) (fun c_3 => ?_) (fun c_3 => ?_)
      · have hF := hF.trans (if_pos c_3)
        refine lv_iconst (v := 0) hx hb dX5_isSettingValue_42 (by decide) ?_
        exact W.zret (v := 0) hx hb hr rfl (fun t ht hW => ⟨0, rfl, hF, ht⟩) (fun _ h => nomatch h) dX5_isSettingValue_43
      · have hF := hF.trans (if_neg c_3)
        refine lv_iload_n hx hb dX5_isSettingValue_32 rfl (lv_at hl 1 rfl) ?_
        refine lv_bipush (v := 50) hx hb dX5_isSettingValue_33 (by decide) ?_
        refine lv_icmp_gt (tgt := 42) hx hb dX5_isSettingValue_35 (by decide) (fun c_4 => ?_) (fun c_4 => ?_)
        · have hF := hF.trans (if_pos c_4)
          refine lv_iconst (v := 0) hx hb dX5_isSettingValue_42 (by decide) ?_
          exact W.zret (v := 0) hx hb hr rfl (fun t ht hW => ⟨0, rfl, hF, ht⟩) (fun _ h => nomatch h) dX5_isSettingValue_43
        · have hF := hF.trans (if_neg c_4)
          refine lv_iconst (v := 1) hx hb dX5_isSettingValue_38 (by decide) ?_
          refine lv_goto (tgt := 43) hx hb dX5_isSettingValue_39 (by decide) ?_
          exact W.zret (v := 1) hx hb hr rfl (fun t ht hW => ⟨1, rfl, hF, ht⟩) (fun _ h => nomatch h) dX5_isSettingValue_43
  · have hF := hF.trans (if_pos c_1)
    refine lv_iload_n hx hb dX5_isSettingValue_4 rfl (lv_at hl 1 rfl) ?_
    refine lv_iconst (v := 5) hx hb dX5_isSettingValue_5 (by decide) ?_
    refine lv_icmp_lt (tgt := 20) hx hb dX5_isSettingValue_6 (by decide) (fun c_5 => ?_) (fun c_5 => ?_)
    · have hF := hF.trans (if_pos c_5)
      refine lv_iconst (v := 0) hx hb dX5_isSettingValue_20 (by decide) ?_
      exact W.zret (v := 0) hx hb hr rfl (fun t ht hW => ⟨0, rfl, hF, ht⟩) (fun _ h => nomatch h) dX5_isSettingValue_21
    · have hF := hF.trans (if_neg c_5)
      refine lv_iload_n hx hb dX5_isSettingValue_9 rfl (lv_at hl 1 rfl) ?_
      refine lv_sipush (v := 999) hx hb dX5_isSettingValue_10 (by decide) ?_
      refine lv_icmp_gt (tgt := 20) hx hb dX5_isSettingValue_13 (by decide) (fun c_6 => ?_) (fun c_6 => ?_)
      · have hF := hF.trans (if_pos c_6)
        refine lv_iconst (v := 0) hx hb dX5_isSettingValue_20 (by decide) ?_
        exact W.zret (v := 0) hx hb hr rfl (fun t ht hW => ⟨0, rfl, hF, ht⟩) (fun _ h => nomatch h) dX5_isSettingValue_21
      · have hF := hF.trans (if_neg c_6)
        refine lv_iconst (v := 1) hx hb dX5_isSettingValue_16 (by decide) ?_
        refine lv_goto (tgt := 21) hx hb dX5_isSettingValue_17 (by decide) ?_
        exact W.zret (v := 1) hx hb hr rfl (fun t ht hW => ⟨1, rfl, hF, ht⟩) (fun _ h => nomatch h) dX5_isSettingValue_21

def f_X3_exists (r : gR) : Int32 :=
    if (r 0) ≤ 0 then
    0
  else
    1
theorem f_X3_exists_s (r : gR) : f_X3_exists r =
    (if (r 0) ≤ 0 then
    0
  else
    1) := rfl
theorem bo_X3_exists (r : gR) : f_X3_exists r = 0 ∨ f_X3_exists r = 1 := by
  unfold f_X3_exists
  repeat' split
  all_goals first | exact Or.inl rfl | exact Or.inr rfl
theorem ex_ne {r : gR} {v : Int32} (h : f_X3_exists r = v) (c : ¬ v = 0) : ¬ r 0 = 0 := by
  subst h
  unfold f_X3_exists at c
  intro e
  rw [e] at c
  exact c (by decide)
theorem hd_X3_exists : yX3_exists.cls = RX3 ∧ yX3_exists.cls ≠ "java/lang/invoke/MethodHandle" ∧ yX3_exists.cls ≠ "java/lang/invoke/VarHandle" ∧ (parseMethodDescriptor yX3_exists.desc).map (fun d => d.parameters.length) = some 0 := by decide +kernel
set_option maxHeartbeats 4000000 in
set_option maxRecDepth 100000 in
theorem c_X3_exists (l : Launch) (D : va_G) (y : Nat → ClassId) (a0 a1 a2 : Nat) (zh : Nat) (r : gR) : Met l yX3_exists wsX3_exists ({ frames := 0, cells := 0, slots := 0, locals := 0 }) (gP D y [.ref a0] zh [(a0, soF a1 a2 r), (a1, soV y r), (a2, soW y r)]) (vp_Si (fun v : Int32 => f_X3_exists r = v)) 0 0 (fun _ => False) := by
  refine Met.ofW (cc := cX3_exists) (maxL := 1) (ret := (some .boolean)) (by decide) rfl ?_
  intro p e s m args below meth c s₁ B hml hv
  obtain ⟨rfl, hsz, hP, hE, hD⟩ := hv
  have hx := B.exec
  have hb := B.bytes
  have hr := B.returns
  have hts := atoms_spec (ws := wsX3_exists) B.pre
  have hown : s.vm.findClass RX3 = some m.cls := findClass_of_methodNamed B.named
  have hlocks := B.notSynchronized
  have w_0 := hts (.fieldLink RX3 25 "GapLines$State" "lines" "I") (List.mem_cons_of_mem _ (List.mem_append_left _ (List.mem_of_getElem? (i := 0) rfl)))
  have hi3 : ∀ w ∈ u_ws RX3 TX3 15, w ∈ wsX3_exists := fun w h => (List.mem_cons_of_mem _ (List.mem_append_right _ h))
  have hl := lv_entry ([.ref a0]) (n := 1) (Nat.le_of_ble_eq_true rfl)
  rw [lg_entry_eq]
  generalize (lg_sl ([.ref a0]) ++ List.replicate (1 - (lg_sl ([.ref a0])).length) Slot.unset).toArray = ls at hl ⊢
  have hl : lv_has ls 1 [(0, .ref a0)] := hl
  have hF := f_X3_exists_s r
  refine lv_aload_n hx hb dX3_exists_0 rfl (lv_at hl 0 rfl) ?_
  refine va_get (D := D) (ci := 2) (v := .int (r 0)) (C := RX3) (T := TX3) (N := 15) hx hb hts hi3 hown hE.1 hP 0 rfl rfl 0 (by decide) w_0 (fun _ h9 => h9) rfl dX3_exists_1 ?_
  refine lv_if_le (tgt := 11) hx hb dX3_exists_4 (by decide) (fun c_1 => ?_) (fun c_1 => ?_)
  · have hF := hF.trans (if_pos c_1)
    refine lv_iconst (v := 0) hx hb dX3_exists_11 (by decide) ?_
    exact W.zret (v := 0) hx hb hr rfl (fun t ht hW => ⟨0, rfl, hF, ht⟩) (fun _ h => nomatch h) dX3_exists_12
  · have hF := hF.trans (if_neg c_1)
    refine lv_iconst (v := 1) hx hb dX3_exists_7 (by decide) ?_
    refine lv_goto (tgt := 12) hx hb dX3_exists_8 (by decide) ?_
    exact W.zret (v := 1) hx hb hr rfl (fun t ht hW => ⟨1, rfl, hF, ht⟩) (fun _ h => nomatch h) dX3_exists_12

def f_X3_hasLine (r : gR) (p0 : Int32) : Int32 :=
    if p0 < 0 then
    0
  else
    if (r 0) ≤ p0 then
      0
    else
      1
theorem f_X3_hasLine_s (r : gR) (p0 : Int32) : f_X3_hasLine r p0 =
    (if p0 < 0 then
    0
  else
    if (r 0) ≤ p0 then
      0
    else
      1) := rfl
theorem bo_X3_hasLine (r : gR) (p0 : Int32) : f_X3_hasLine r p0 = 0 ∨ f_X3_hasLine r p0 = 1 := by
  unfold f_X3_hasLine
  repeat' split
  all_goals first | exact Or.inl rfl | exact Or.inr rfl
theorem hl_iff (r : gR) (l : Int32) : f_X3_hasLine r l = 0 ↔ (l < 0 ∨ r 0 ≤ l) := by
  unfold f_X3_hasLine
  by_cases h1 : l < 0
  · simp [h1]
  · by_cases h2 : r 0 ≤ l <;> simp [h1, h2]
theorem hl_in {r : gR} {l v : Int32} (ho : okC r) (h : f_X3_hasLine r l = v) (c : ¬ v = 0) : vp_in l 32 := by
  subst h
  rw [hl_iff] at c
  exact ix_btl (fun q => c (Or.inl q)) (fun q => c (Or.inr q)) ho.2.1
theorem hl_ne {r : gR} {l v : Int32} (h : f_X3_hasLine r l = v) (c : ¬ v = 0) : ¬ r 0 = 0 := by
  subst h
  rw [hl_iff] at c
  exact dv_pos (fun q => c (Or.inl q)) (fun q => c (Or.inr q))
theorem hd_X3_hasLine : yX3_hasLine.cls = RX3 ∧ yX3_hasLine.cls ≠ "java/lang/invoke/MethodHandle" ∧ yX3_hasLine.cls ≠ "java/lang/invoke/VarHandle" ∧ (parseMethodDescriptor yX3_hasLine.desc).map (fun d => d.parameters.length) = some 1 := by decide +kernel
set_option maxHeartbeats 4000000 in
set_option maxRecDepth 100000 in
theorem c_X3_hasLine (l : Launch) (D : va_G) (y : Nat → ClassId) (a0 a1 a2 : Nat) (zh : Nat) (r : gR) (p0 : Int32) : Met l yX3_hasLine wsX3_hasLine ({ frames := 0, cells := 0, slots := 0, locals := 0 }) (gP D y [.ref a0, .int p0] zh [(a0, soF a1 a2 r), (a1, soV y r), (a2, soW y r)]) (vp_Si (fun v : Int32 => f_X3_hasLine r p0 = v)) 0 0 (fun _ => False) := by
  refine Met.ofW (cc := cX3_hasLine) (maxL := 2) (ret := (some .boolean)) (by decide) rfl ?_
  intro p e s m args below meth c s₁ B hml hv
  obtain ⟨rfl, hsz, hP, hE, hD⟩ := hv
  have hx := B.exec
  have hb := B.bytes
  have hr := B.returns
  have hts := atoms_spec (ws := wsX3_hasLine) B.pre
  have hown : s.vm.findClass RX3 = some m.cls := findClass_of_methodNamed B.named
  have hlocks := B.notSynchronized
  have w_0 := hts (.fieldLink RX3 25 "GapLines$State" "lines" "I") (List.mem_cons_of_mem _ (List.mem_append_left _ (List.mem_of_getElem? (i := 0) rfl)))
  have hi3 : ∀ w ∈ u_ws RX3 TX3 15, w ∈ wsX3_hasLine := fun w h => (List.mem_cons_of_mem _ (List.mem_append_right _ h))
  have hl := lv_entry ([.ref a0, .int p0]) (n := 2) (Nat.le_of_ble_eq_true rfl)
  rw [lg_entry_eq]
  generalize (lg_sl ([.ref a0, .int p0]) ++ List.replicate (2 - (lg_sl ([.ref a0, .int p0])).length) Slot.unset).toArray = ls at hl ⊢
  have hl : lv_has ls 2 [(0, .ref a0), (1, .int p0)] := hl
  have hF := f_X3_hasLine_s r p0
  refine lv_iload_n hx hb dX3_hasLine_0 rfl (lv_at hl 1 rfl) ?_
  refine lv_if_lt (tgt := 16) hx hb dX3_hasLine_1 (by decide) (fun c_1 => ?_) (fun c_1 => ?_)
  · have hF := hF.trans (if_pos c_1)
    refine lv_iconst (v := 0) hx hb dX3_hasLine_16 (by decide) ?_
    exact W.zret (v := 0) hx hb hr rfl (fun t ht hW => ⟨0, rfl, hF, ht⟩) (fun _ h => nomatch h) dX3_hasLine_17
  · have hF := hF.trans (if_neg c_1)
    refine lv_iload_n hx hb dX3_hasLine_4 rfl (lv_at hl 1 rfl) ?_
    refine lv_aload_n hx hb dX3_hasLine_5 rfl (lv_at hl 0 rfl) ?_
    refine va_get (D := D) (ci := 2) (v := .int (r 0)) (C := RX3) (T := TX3) (N := 15) hx hb hts hi3 hown hE.1 hP 0 rfl rfl 0 (by decide) w_0 (fun _ h9 => h9) rfl dX3_hasLine_6 ?_
    refine lv_icmp_ge (tgt := 16) hx hb dX3_hasLine_9 (by decide) (fun c_2 => ?_) (fun c_2 => ?_)
    · have hF := hF.trans (if_pos c_2)
      refine lv_iconst (v := 0) hx hb dX3_hasLine_16 (by decide) ?_
      exact W.zret (v := 0) hx hb hr rfl (fun t ht hW => ⟨0, rfl, hF, ht⟩) (fun _ h => nomatch h) dX3_hasLine_17
    · have hF := hF.trans (if_neg c_2)
      refine lv_iconst (v := 1) hx hb dX3_hasLine_12 (by decide) ?_
      refine lv_goto (tgt := 17) hx hb dX3_hasLine_13 (by decide) ?_
      exact W.zret (v := 1) hx hb hr rfl (fun t ht hW => ⟨1, rfl, hF, ht⟩) (fun _ h => nomatch h) dX3_hasLine_17

def f_X3_hasPlace (r : gR) (p0 : Int32) : Int32 :=
    if (r 0) ≤ 0 then
    0
  else
    if p0 < 0 then
      0
    else
      if (r 0) < p0 then
        0
      else
        1
theorem f_X3_hasPlace_s (r : gR) (p0 : Int32) : f_X3_hasPlace r p0 =
    (if (r 0) ≤ 0 then
    0
  else
    if p0 < 0 then
      0
    else
      if (r 0) < p0 then
        0
      else
        1) := rfl
theorem bo_X3_hasPlace (r : gR) (p0 : Int32) : f_X3_hasPlace r p0 = 0 ∨ f_X3_hasPlace r p0 = 1 := by
  unfold f_X3_hasPlace
  repeat' split
  all_goals first | exact Or.inl rfl | exact Or.inr rfl
theorem hp_in {r : gR} {l v : Int32} (ho : okC r) (h : f_X3_hasPlace r l = v) (c : ¬ v = 0) : vp_in l 33 := by
  subst h
  unfold f_X3_hasPlace at c
  by_cases h1 : r 0 ≤ 0
  · simp [h1] at c
  · by_cases h2 : l < 0
    · simp [h1, h2] at c
    · by_cases h3 : r 0 < l
      · simp [h1, h2, h3] at c
      · exact ix_btw h2 h3 (by have := ho.2.1; omega)
theorem hd_X3_hasPlace : yX3_hasPlace.cls = RX3 ∧ yX3_hasPlace.cls ≠ "java/lang/invoke/MethodHandle" ∧ yX3_hasPlace.cls ≠ "java/lang/invoke/VarHandle" ∧ (parseMethodDescriptor yX3_hasPlace.desc).map (fun d => d.parameters.length) = some 1 := by decide +kernel
set_option maxHeartbeats 4000000 in
set_option maxRecDepth 100000 in
theorem c_X3_hasPlace (l : Launch) (D : va_G) (y : Nat → ClassId) (a0 a1 a2 : Nat) (zh : Nat) (r : gR) (p0 : Int32) : Met l yX3_hasPlace wsX3_hasPlace ({ frames := 0, cells := 0, slots := 0, locals := 0 }) (gP D y [.ref a0, .int p0] zh [(a0, soF a1 a2 r), (a1, soV y r), (a2, soW y r)]) (vp_Si (fun v : Int32 => f_X3_hasPlace r p0 = v)) 0 0 (fun _ => False) := by
  refine Met.ofW (cc := cX3_hasPlace) (maxL := 2) (ret := (some .boolean)) (by decide) rfl ?_
  intro p e s m args below meth c s₁ B hml hv
  obtain ⟨rfl, hsz, hP, hE, hD⟩ := hv
  have hx := B.exec
  have hb := B.bytes
  have hr := B.returns
  have hts := atoms_spec (ws := wsX3_hasPlace) B.pre
  have hown : s.vm.findClass RX3 = some m.cls := findClass_of_methodNamed B.named
  have hlocks := B.notSynchronized
  have w_0 := hts (.fieldLink RX3 25 "GapLines$State" "lines" "I") (List.mem_cons_of_mem _ (List.mem_append_left _ (List.mem_of_getElem? (i := 0) rfl)))
  have hi3 : ∀ w ∈ u_ws RX3 TX3 15, w ∈ wsX3_hasPlace := fun w h => (List.mem_cons_of_mem _ (List.mem_append_right _ h))
  have hl := lv_entry ([.ref a0, .int p0]) (n := 2) (Nat.le_of_ble_eq_true rfl)
  rw [lg_entry_eq]
  generalize (lg_sl ([.ref a0, .int p0]) ++ List.replicate (2 - (lg_sl ([.ref a0, .int p0])).length) Slot.unset).toArray = ls at hl ⊢
  have hl : lv_has ls 2 [(0, .ref a0), (1, .int p0)] := hl
  have hF := f_X3_hasPlace_s r p0
  refine lv_aload_n hx hb dX3_hasPlace_0 rfl (lv_at hl 0 rfl) ?_
  refine va_get (D := D) (ci := 2) (v := .int (r 0)) (C := RX3) (T := TX3) (N := 15) hx hb hts hi3 hown hE.1 hP 0 rfl rfl 0 (by decide) w_0 (fun _ h9 => h9) rfl dX3_hasPlace_1 ?_
  refine lv_if_le (tgt := 23) hx hb dX3_hasPlace_4 (by decide) (fun c_1 => ?_) (fun c_1 => ?_)
  · have hF := hF.trans (if_pos c_1)
    refine lv_iconst (v := 0) hx hb dX3_hasPlace_23 (by decide) ?_
    exact W.zret (v := 0) hx hb hr rfl (fun t ht hW => ⟨0, rfl, hF, ht⟩) (fun _ h => nomatch h) dX3_hasPlace_24
  · have hF := hF.trans (if_neg c_1)
    refine lv_iload_n hx hb dX3_hasPlace_7 rfl (lv_at hl 1 rfl) ?_
    refine lv_if_lt (tgt := 23) hx hb dX3_hasPlace_8 (by decide) (fun c_2 => ?_) (fun c_2 => ?_)
    · have hF := hF.trans (if_pos c_2)
      refine lv_iconst (v := 0) hx hb dX3_hasPlace_23 (by decide) ?_
      exact W.zret (v := 0) hx hb hr rfl (fun t ht hW => ⟨0, rfl, hF, ht⟩) (fun _ h => nomatch h) dX3_hasPlace_24
    · have hF := hF.trans (if_neg c_2)
      refine lv_iload_n hx hb dX3_hasPlace_11 rfl (lv_at hl 1 rfl) ?_
      refine lv_aload_n hx hb dX3_hasPlace_12 rfl (lv_at hl 0 rfl) ?_
      refine va_get (D := D) (ci := 2) (v := .int (r 0)) (C := RX3) (T := TX3) (N := 15) hx hb hts hi3 hown hE.1 hP 0 rfl rfl 0 (by decide) w_0 (fun _ h9 => h9) rfl dX3_hasPlace_13 ?_
      refine lv_icmp_gt (tgt := 23) hx hb dX3_hasPlace_16 (by decide) (fun c_3 => ?_) (fun c_3 => ?_)
      · have hF := hF.trans (if_pos c_3)
        refine lv_iconst (v := 0) hx hb dX3_hasPlace_23 (by decide) ?_
        exact W.zret (v := 0) hx hb hr rfl (fun t ht hW => ⟨0, rfl, hF, ht⟩) (fun _ h => nomatch h) dX3_hasPlace_24
      · have hF := hF.trans (if_neg c_3)
        refine lv_iconst (v := 1) hx hb dX3_hasPlace_19 (by decide) ?_
        refine lv_goto (tgt := 24) hx hb dX3_hasPlace_20 (by decide) ?_
        exact W.zret (v := 1) hx hb hr rfl (fun t ht hW => ⟨1, rfl, hF, ht⟩) (fun _ h => nomatch h) dX3_hasPlace_24

def f_X3_rankOf (r : gR) (p0 : Int32) (p1 : Int32) : Int32 :=
    if p0 < 0 then
    (-1)
  else
    if (r 0) ≤ p0 then
      (-1)
    else
      gLet ((((r 1) * p0) + p1) - (((r 1) * p0) + p1) / (r 0) * (r 0)) (fun (v3 : Int32) =>
        v3)
theorem f_X3_rankOf_s (r : gR) (p0 : Int32) (p1 : Int32) : f_X3_rankOf r p0 p1 =
    (if p0 < 0 then
    (-1)
  else
    if (r 0) ≤ p0 then
      (-1)
    else
      gLet ((((r 1) * p0) + p1) - (((r 1) * p0) + p1) / (r 0) * (r 0)) (fun (v3 : Int32) =>
        v3)) := rfl
theorem hd_X3_rankOf : yX3_rankOf.cls = RX3 ∧ yX3_rankOf.cls ≠ "java/lang/invoke/MethodHandle" ∧ yX3_rankOf.cls ≠ "java/lang/invoke/VarHandle" ∧ (parseMethodDescriptor yX3_rankOf.desc).map (fun d => d.parameters.length) = some 2 := by decide +kernel
set_option maxHeartbeats 4000000 in
set_option maxRecDepth 100000 in
theorem c_X3_rankOf (l : Launch) (D : va_G) (y : Nat → ClassId) (a0 a1 a2 : Nat) (zh : Nat) (r : gR) (p0 : Int32) (p1 : Int32) : Met l yX3_rankOf wsX3_rankOf ({ frames := 0, cells := 0, slots := 0, locals := 0 }) (gP D y [.ref a0, .int p0, .int p1] zh [(a0, soF a1 a2 r), (a1, soV y r), (a2, soW y r)]) (vp_Si (fun v : Int32 => f_X3_rankOf r p0 p1 = v)) 0 0 (fun _ => False) := by
  refine Met.ofW (cc := cX3_rankOf) (maxL := 3) (ret := (some .int)) (by decide) rfl ?_
  intro p e s m args below meth c s₁ B hml hv
  obtain ⟨rfl, hsz, hP, hE, hD⟩ := hv
  have hx := B.exec
  have hb := B.bytes
  have hr := B.returns
  have hts := atoms_spec (ws := wsX3_rankOf) B.pre
  have hown : s.vm.findClass RX3 = some m.cls := findClass_of_methodNamed B.named
  have hlocks := B.notSynchronized
  have w_0 := hts (.fieldLink RX3 25 "GapLines$State" "lines" "I") (List.mem_cons_of_mem _ (List.mem_append_left _ (List.mem_of_getElem? (i := 0) rfl)))
  have hi3 : ∀ w ∈ u_ws RX3 TX3 15, w ∈ wsX3_rankOf := fun w h => (List.mem_cons_of_mem _ (List.mem_append_right _ h))
  have w_2 := hts (.fieldLink RX3 28 "GapLines$State" "key" "I") (List.mem_cons_of_mem _ (List.mem_append_left _ (List.mem_of_getElem? (i := 1) rfl)))
  have hl := lv_entry ([.ref a0, .int p0, .int p1]) (n := 3) (Nat.le_of_ble_eq_true rfl)
  rw [lg_entry_eq]
  generalize (lg_sl ([.ref a0, .int p0, .int p1]) ++ List.replicate (3 - (lg_sl ([.ref a0, .int p0, .int p1])).length) Slot.unset).toArray = ls at hl ⊢
  have hl : lv_has ls 3 [(0, .ref a0), (1, .int p0), (2, .int p1)] := hl
  have hF := f_X3_rankOf_s r p0 p1
  refine lv_iload_n hx hb dX3_rankOf_0 rfl (lv_at hl 1 rfl) ?_
  refine lv_if_lt (tgt := 28) hx hb dX3_rankOf_1 (by decide) (fun c_1 => ?_) (fun c_1 => ?_)
  · have hF := hF.trans (if_pos c_1)
    refine lv_iconst (v := (-1)) hx hb dX3_rankOf_28 (by decide) ?_
    exact W.iret (v := (-1)) hx hb hr (fun t ht hW => ⟨(-1), rfl, hF, ht⟩) (fun _ h => nomatch h) dX3_rankOf_29
  · have hF := hF.trans (if_neg c_1)
    refine lv_iload_n hx hb dX3_rankOf_4 rfl (lv_at hl 1 rfl) ?_
    refine lv_aload_n hx hb dX3_rankOf_5 rfl (lv_at hl 0 rfl) ?_
    refine va_get (D := D) (ci := 2) (v := .int (r 0)) (C := RX3) (T := TX3) (N := 15) hx hb hts hi3 hown hE.1 hP 0 rfl rfl 0 (by decide) w_0 (fun _ h9 => h9) rfl dX3_rankOf_6 ?_
    refine lv_icmp_ge (tgt := 28) hx hb dX3_rankOf_9 (by decide) (fun c_2 => ?_) (fun c_2 => ?_)
    · have hF := hF.trans (if_pos c_2)
      refine lv_iconst (v := (-1)) hx hb dX3_rankOf_28 (by decide) ?_
      exact W.iret (v := (-1)) hx hb hr (fun t ht hW => ⟨(-1), rfl, hF, ht⟩) (fun _ h => nomatch h) dX3_rankOf_29
    · have hF := hF.trans (if_neg c_2)
      refine lv_aload_n hx hb dX3_rankOf_12 rfl (lv_at hl 0 rfl) ?_
      refine va_get (D := D) (ci := 2) (v := .int (r 1)) (C := RX3) (T := TX3) (N := 15) hx hb hts hi3 hown hE.1 hP 0 rfl rfl 1 (by decide) w_2 (fun _ h9 => h9) rfl dX3_rankOf_13 ?_
      refine lv_iload_n hx hb dX3_rankOf_16 rfl (lv_at hl 1 rfl) ?_
      refine lv_imul hx hb dX3_rankOf_17 ?_
      refine lv_iload_n hx hb dX3_rankOf_18 rfl (lv_at hl 2 rfl) ?_
      refine lv_iadd hx hb dX3_rankOf_19 ?_
      refine lv_aload_n hx hb dX3_rankOf_20 rfl (lv_at hl 0 rfl) ?_
      refine va_get (D := D) (ci := 2) (v := .int (r 0)) (C := RX3) (T := TX3) (N := 15) hx hb hts hi3 hown hE.1 hP 0 rfl rfl 0 (by decide) w_0 (fun _ h9 => h9) rfl dX3_rankOf_21 ?_
      refine lv_irem hx hb dX3_rankOf_24 (dv_pos (a := p0) (by assumption) (by assumption)) ?_
      obtain ⟨v3, ev3⟩ : ∃ z : Int32, (((r 1) * p0) + p1) - (((r 1) * p0) + p1) / (r 0) * (r 0) = z := ⟨_, rfl⟩
      rw [ev3]
      have hF := hF.trans (gLet_e ev3)
      refine lv_goto (tgt := 29) hx hb dX3_rankOf_25 (by decide) ?_
      exact W.iret (v := v3) hx hb hr (fun t ht hW => ⟨v3, rfl, hF, ht⟩) (fun _ h => nomatch h) dX3_rankOf_29

def f_X3_placeOf (r : gR) (p0 : Int32) : Int32 :=
    gLet (f_X3_rankOf r p0 (r 2)) (fun (v2 : Int32) =>
    if (r 3) ≤ v2 then
      (v2 + 1)
    else
      v2)
theorem f_X3_placeOf_s (r : gR) (p0 : Int32) : f_X3_placeOf r p0 =
    (gLet (f_X3_rankOf r p0 (r 2)) (fun (v2 : Int32) =>
    if (r 3) ≤ v2 then
      (v2 + 1)
    else
      v2)) := rfl
theorem hd_X3_placeOf : yX3_placeOf.cls = RX3 ∧ yX3_placeOf.cls ≠ "java/lang/invoke/MethodHandle" ∧ yX3_placeOf.cls ≠ "java/lang/invoke/VarHandle" ∧ (parseMethodDescriptor yX3_placeOf.desc).map (fun d => d.parameters.length) = some 1 := by decide +kernel
set_option maxHeartbeats 4000000 in
set_option maxRecDepth 100000 in
theorem c_X3_placeOf (l : Launch) (D : va_G) (y : Nat → ClassId) (a0 a1 a2 : Nat) (zh : Nat) (r : gR) (p0 : Int32) : Met l yX3_placeOf wsX3_placeOf ({ frames := 1, cells := 0, slots := 0, locals := 22 }) (gP D y [.ref a0, .int p0] zh [(a0, soF a1 a2 r), (a1, soV y r), (a2, soW y r)]) (vp_Si (fun v : Int32 => f_X3_placeOf r p0 = v)) 0 0 (fun _ => False) := by
  refine Met.ofW (cc := cX3_placeOf) (maxL := 3) (ret := (some .int)) (by decide) rfl ?_
  intro p e s m args below meth c s₁ B hml hv
  obtain ⟨rfl, hsz, hP, hE, hD⟩ := hv
  have hx := B.exec
  have hb := B.bytes
  have hr := B.returns
  have hts := atoms_spec (ws := wsX3_placeOf) B.pre
  have hown : s.vm.findClass RX3 = some m.cls := findClass_of_methodNamed B.named
  have hlocks := B.notSynchronized
  have w_0 := hts (.fieldLink RX3 31 "GapLines$State" "start" "I") (List.mem_cons_of_mem _ (List.mem_append_left _ (List.mem_of_getElem? (i := 0) rfl)))
  have hi3 : ∀ w ∈ u_ws RX3 TX3 15, w ∈ wsX3_placeOf := fun w h => (List.mem_cons_of_mem _ (List.mem_append_right _ h))
  have w_2 := hts (.fieldLink RX3 34 "GapLines$State" "gap" "I") (List.mem_cons_of_mem _ (List.mem_append_left _ (List.mem_of_getElem? (i := 1) rfl)))
  have hl := lv_entry ([.ref a0, .int p0]) (n := 3) (Nat.le_of_ble_eq_true rfl)
  rw [lg_entry_eq]
  generalize (lg_sl ([.ref a0, .int p0]) ++ List.replicate (3 - (lg_sl ([.ref a0, .int p0])).length) Slot.unset).toArray = ls at hl ⊢
  have hl : lv_has ls 3 [(0, .ref a0), (1, .int p0)] := hl
  have hF := f_X3_placeOf_s r p0
  refine lv_aload_n hx hb dX3_placeOf_0 rfl (lv_at hl 0 rfl) ?_
  refine lv_iload_n hx hb dX3_placeOf_1 rfl (lv_at hl 1 rfl) ?_
  refine lv_aload_n hx hb dX3_placeOf_2 rfl (lv_at hl 0 rfl) ?_
  refine va_get (D := D) (ci := 2) (v := .int (r 2)) (C := RX3) (T := TX3) (N := 15) hx hb hts hi3 hown hE.1 hP 0 rfl rfl 2 (by decide) w_0 (fun _ h9 => h9) rfl dX3_placeOf_3 ?_
  refine xs_calli (va_runV (As := [.int p0, .int (r 2)]) (rest := []) ⟨hx, hb, hml, hown, hts⟩ (c_X3_rankOf l D y a0 a1 a2 s.heap.size r p0 (r 2)) (cwV 2 hts gX3_placeOf_X3_rankOf rfl rfl rfl hd_X3_rankOf ⟨Nat.le_of_ble_eq_true rfl, Nat.le_of_ble_eq_true rfl⟩) (gV (q := (RX3, TX3, 15)) hE hP hD 0 rfl rfl) rfl rfl hl.1 rfl (lv_room (Nat.le_of_ble_eq_true rfl)) dX3_placeOf_6 ⟨Nat.le_of_ble_eq_true rfl, Nat.le_of_ble_eq_true rfl⟩) (fun v2 h1 => ?_)
  have hF := hF.trans (gLet_e h1)
  refine lv_istore_n (lv' := [(2, .int v2), (0, .ref a0), (1, .int p0)]) hx hb dX3_placeOf_9 rfl hl (by decide) rfl (fun ls hl => ?_)
  refine lv_iload_n hx hb dX3_placeOf_10 rfl (lv_at hl 0 rfl) ?_
  refine lv_aload_n hx hb dX3_placeOf_11 rfl (lv_at hl 1 rfl) ?_
  refine va_get (D := D) (ci := 2) (v := .int (r 3)) (C := RX3) (T := TX3) (N := 15) hx hb hts hi3 hown hE.1 hP 0 rfl rfl 3 (by decide) w_2 (fun _ h9 => h9) rfl dX3_placeOf_12 ?_
  refine lv_icmp_ge (tgt := 22) hx hb dX3_placeOf_15 (by decide) (fun c_3 => ?_) (fun c_3 => ?_)
  · have hF := hF.trans (if_pos c_3)
    refine lv_iload_n hx hb dX3_placeOf_22 rfl (lv_at hl 0 rfl) ?_
    refine lv_iconst (v := 1) hx hb dX3_placeOf_23 (by decide) ?_
    refine lv_iadd hx hb dX3_placeOf_24 ?_
    exact W.iret (v := (v2 + 1)) hx hb hr (fun t ht hW => ⟨(v2 + 1), rfl, hF, ht⟩) (fun _ h => nomatch h) dX3_placeOf_25
  · have hF := hF.trans (if_neg c_3)
    refine lv_iload_n hx hb dX3_placeOf_18 rfl (lv_at hl 0 rfl) ?_
    refine lv_goto (tgt := 25) hx hb dX3_placeOf_19 (by decide) ?_
    exact W.iret (v := v2) hx hb hr (fun t ht hW => ⟨v2, rfl, hF, ht⟩) (fun _ h => nomatch h) dX3_placeOf_25

def f_X3_valueOf (r : gR) (p0 : Int32) : Int32 :=
    gLet (f_X3_hasLine r p0) (fun (v2 : Int32) =>
    if v2 = 0 then
      (-1)
    else
      (r (13 + p0.toNatClampNeg)))
theorem f_X3_valueOf_s (r : gR) (p0 : Int32) : f_X3_valueOf r p0 =
    (gLet (f_X3_hasLine r p0) (fun (v2 : Int32) =>
    if v2 = 0 then
      (-1)
    else
      (r (13 + p0.toNatClampNeg)))) := rfl
theorem hd_X3_valueOf : yX3_valueOf.cls = RX3 ∧ yX3_valueOf.cls ≠ "java/lang/invoke/MethodHandle" ∧ yX3_valueOf.cls ≠ "java/lang/invoke/VarHandle" ∧ (parseMethodDescriptor yX3_valueOf.desc).map (fun d => d.parameters.length) = some 1 := by decide +kernel
set_option maxHeartbeats 4000000 in
set_option maxRecDepth 100000 in
theorem c_X3_valueOf (l : Launch) (D : va_G) (y : Nat → ClassId) (a0 a1 a2 : Nat) (zh : Nat) (r : gR) (p0 : Int32) (ho : okC r) : Met l yX3_valueOf wsX3_valueOf ({ frames := 1, cells := 0, slots := 0, locals := 21 }) (gP D y [.ref a0, .int p0] zh [(a0, soF a1 a2 r), (a1, soV y r), (a2, soW y r)]) (vp_Si (fun v : Int32 => f_X3_valueOf r p0 = v)) 0 0 (fun _ => False) := by
  refine Met.ofW (cc := cX3_valueOf) (maxL := 2) (ret := (some .int)) (by decide) rfl ?_
  intro p e s m args below meth c s₁ B hml hv
  obtain ⟨rfl, hsz, hP, hE, hD⟩ := hv
  have hx := B.exec
  have hb := B.bytes
  have hr := B.returns
  have hts := atoms_spec (ws := wsX3_valueOf) B.pre
  have hown : s.vm.findClass RX3 = some m.cls := findClass_of_methodNamed B.named
  have hlocks := B.notSynchronized
  have w_0 := hts (.fieldLink RX3 18 "GapLines$State" "values" "[I") (List.mem_cons_of_mem _ (List.mem_append_left _ (List.mem_of_getElem? (i := 0) rfl)))
  have hi3 : ∀ w ∈ u_ws RX3 TX3 15, w ∈ wsX3_valueOf := fun w h => (List.mem_cons_of_mem _ (List.mem_append_right _ h))
  have hl := lv_entry ([.ref a0, .int p0]) (n := 2) (Nat.le_of_ble_eq_true rfl)
  rw [lg_entry_eq]
  generalize (lg_sl ([.ref a0, .int p0]) ++ List.replicate (2 - (lg_sl ([.ref a0, .int p0])).length) Slot.unset).toArray = ls at hl ⊢
  have hl : lv_has ls 2 [(0, .ref a0), (1, .int p0)] := hl
  have hF := f_X3_valueOf_s r p0
  refine lv_aload_n hx hb dX3_valueOf_0 rfl (lv_at hl 0 rfl) ?_
  refine lv_iload_n hx hb dX3_valueOf_1 rfl (lv_at hl 1 rfl) ?_
  refine xs_calli (va_runV (As := [.int p0]) (rest := []) ⟨hx, hb, hml, hown, hts⟩ (c_X3_hasLine l D y a0 a1 a2 s.heap.size r p0) (cwV 1 hts gX3_valueOf_X3_hasLine rfl rfl rfl hd_X3_hasLine ⟨Nat.le_of_ble_eq_true rfl, Nat.le_of_ble_eq_true rfl⟩) (gV (q := (RX3, TX3, 15)) hE hP hD 0 rfl rfl) rfl rfl hl.1 rfl (lv_room (Nat.le_of_ble_eq_true rfl)) dX3_valueOf_2 ⟨Nat.le_of_ble_eq_true rfl, Nat.le_of_ble_eq_true rfl⟩) (fun v2 h1 => ?_)
  have hF := hF.trans (gLet_e h1)
  refine lv_if_eq (tgt := 17) hx hb dX3_valueOf_5 (by decide) (fun c_3 => ?_) (fun c_3 => ?_)
  · have hF := hF.trans (if_pos c_3)
    refine lv_iconst (v := (-1)) hx hb dX3_valueOf_17 (by decide) ?_
    exact W.iret (v := (-1)) hx hb hr (fun t ht hW => ⟨(-1), rfl, hF, ht⟩) (fun _ h => nomatch h) dX3_valueOf_18
  · have hF := hF.trans (if_neg c_3)
    refine lv_aload_n hx hb dX3_valueOf_8 rfl (lv_at hl 0 rfl) ?_
    refine va_get (D := D) (ci := 2) (v := .ref a1) (C := RX3) (T := TX3) (N := 15) hx hb hts hi3 hown hE.1 hP 0 rfl rfl 13 (by decide) w_0 (fun _ h9 => h9) rfl dX3_valueOf_9 ?_
    refine lv_iload_n hx hb dX3_valueOf_12 rfl (lv_at hl 1 rfl) ?_
    refine xa_iald (k := p0.toNatClampNeg) (v := r (13 + p0.toNatClampNeg)) hx hb hE.1 hP 1 0 rfl rfl (hl_in ho (by assumption) (by assumption)) rfl rfl dX3_valueOf_13 ?_
    refine lv_goto (tgt := 18) hx hb dX3_valueOf_14 (by decide) ?_
    exact W.iret (v := (r (13 + p0.toNatClampNeg))) hx hb hr (fun t ht hW => ⟨(r (13 + p0.toNatClampNeg)), rfl, hF, ht⟩) (fun _ h => nomatch h) dX3_valueOf_18

def f_X3_wearOf (r : gR) (p0 : Int32) : Int32 :=
    gLet (f_X3_hasPlace r p0) (fun (v2 : Int32) =>
    if v2 = 0 then
      (-1)
    else
      (r (45 + p0.toNatClampNeg)))
theorem f_X3_wearOf_s (r : gR) (p0 : Int32) : f_X3_wearOf r p0 =
    (gLet (f_X3_hasPlace r p0) (fun (v2 : Int32) =>
    if v2 = 0 then
      (-1)
    else
      (r (45 + p0.toNatClampNeg)))) := rfl
theorem hd_X3_wearOf : yX3_wearOf.cls = RX3 ∧ yX3_wearOf.cls ≠ "java/lang/invoke/MethodHandle" ∧ yX3_wearOf.cls ≠ "java/lang/invoke/VarHandle" ∧ (parseMethodDescriptor yX3_wearOf.desc).map (fun d => d.parameters.length) = some 1 := by decide +kernel
set_option maxHeartbeats 4000000 in
set_option maxRecDepth 100000 in
theorem c_X3_wearOf (l : Launch) (D : va_G) (y : Nat → ClassId) (a0 a1 a2 : Nat) (zh : Nat) (r : gR) (p0 : Int32) (ho : okC r) : Met l yX3_wearOf wsX3_wearOf ({ frames := 1, cells := 0, slots := 0, locals := 21 }) (gP D y [.ref a0, .int p0] zh [(a0, soF a1 a2 r), (a1, soV y r), (a2, soW y r)]) (vp_Si (fun v : Int32 => f_X3_wearOf r p0 = v)) 0 0 (fun _ => False) := by
  refine Met.ofW (cc := cX3_wearOf) (maxL := 2) (ret := (some .int)) (by decide) rfl ?_
  intro p e s m args below meth c s₁ B hml hv
  obtain ⟨rfl, hsz, hP, hE, hD⟩ := hv
  have hx := B.exec
  have hb := B.bytes
  have hr := B.returns
  have hts := atoms_spec (ws := wsX3_wearOf) B.pre
  have hown : s.vm.findClass RX3 = some m.cls := findClass_of_methodNamed B.named
  have hlocks := B.notSynchronized
  have w_0 := hts (.fieldLink RX3 22 "GapLines$State" "wears" "[I") (List.mem_cons_of_mem _ (List.mem_append_left _ (List.mem_of_getElem? (i := 0) rfl)))
  have hi3 : ∀ w ∈ u_ws RX3 TX3 15, w ∈ wsX3_wearOf := fun w h => (List.mem_cons_of_mem _ (List.mem_append_right _ h))
  have hl := lv_entry ([.ref a0, .int p0]) (n := 2) (Nat.le_of_ble_eq_true rfl)
  rw [lg_entry_eq]
  generalize (lg_sl ([.ref a0, .int p0]) ++ List.replicate (2 - (lg_sl ([.ref a0, .int p0])).length) Slot.unset).toArray = ls at hl ⊢
  have hl : lv_has ls 2 [(0, .ref a0), (1, .int p0)] := hl
  have hF := f_X3_wearOf_s r p0
  refine lv_aload_n hx hb dX3_wearOf_0 rfl (lv_at hl 0 rfl) ?_
  refine lv_iload_n hx hb dX3_wearOf_1 rfl (lv_at hl 1 rfl) ?_
  refine xs_calli (va_runV (As := [.int p0]) (rest := []) ⟨hx, hb, hml, hown, hts⟩ (c_X3_hasPlace l D y a0 a1 a2 s.heap.size r p0) (cwV 1 hts gX3_wearOf_X3_hasPlace rfl rfl rfl hd_X3_hasPlace ⟨Nat.le_of_ble_eq_true rfl, Nat.le_of_ble_eq_true rfl⟩) (gV (q := (RX3, TX3, 15)) hE hP hD 0 rfl rfl) rfl rfl hl.1 rfl (lv_room (Nat.le_of_ble_eq_true rfl)) dX3_wearOf_2 ⟨Nat.le_of_ble_eq_true rfl, Nat.le_of_ble_eq_true rfl⟩) (fun v2 h1 => ?_)
  have hF := hF.trans (gLet_e h1)
  refine lv_if_eq (tgt := 17) hx hb dX3_wearOf_5 (by decide) (fun c_3 => ?_) (fun c_3 => ?_)
  · have hF := hF.trans (if_pos c_3)
    refine lv_iconst (v := (-1)) hx hb dX3_wearOf_17 (by decide) ?_
    exact W.iret (v := (-1)) hx hb hr (fun t ht hW => ⟨(-1), rfl, hF, ht⟩) (fun _ h => nomatch h) dX3_wearOf_18
  · have hF := hF.trans (if_neg c_3)
    refine lv_aload_n hx hb dX3_wearOf_8 rfl (lv_at hl 0 rfl) ?_
    refine va_get (D := D) (ci := 2) (v := .ref a2) (C := RX3) (T := TX3) (N := 15) hx hb hts hi3 hown hE.1 hP 0 rfl rfl 14 (by decide) w_0 (fun _ h9 => h9) rfl dX3_wearOf_9 ?_
    refine lv_iload_n hx hb dX3_wearOf_12 rfl (lv_at hl 1 rfl) ?_
    refine xa_iald (k := p0.toNatClampNeg) (v := r (45 + p0.toNatClampNeg)) hx hb hE.1 hP 2 0 rfl rfl (hp_in ho (by assumption) (by assumption)) rfl rfl dX3_wearOf_13 ?_
    refine lv_goto (tgt := 18) hx hb dX3_wearOf_14 (by decide) ?_
    exact W.iret (v := (r (45 + p0.toNatClampNeg))) hx hb hr (fun t ht hW => ⟨(r (45 + p0.toNatClampNeg)), rfl, hF, ht⟩) (fun _ h => nomatch h) dX3_wearOf_18

def f_X3_settingOf (r : gR) (p0 : Int32) : Int32 :=
    if p0 = 0 then
    (r 11)
  else
    (r 12)
theorem f_X3_settingOf_s (r : gR) (p0 : Int32) : f_X3_settingOf r p0 =
    (if p0 = 0 then
    (r 11)
  else
    (r 12)) := rfl
theorem hd_X3_settingOf : yX3_settingOf.cls = RX3 ∧ yX3_settingOf.cls ≠ "java/lang/invoke/MethodHandle" ∧ yX3_settingOf.cls ≠ "java/lang/invoke/VarHandle" ∧ (parseMethodDescriptor yX3_settingOf.desc).map (fun d => d.parameters.length) = some 1 := by decide +kernel
set_option maxHeartbeats 4000000 in
set_option maxRecDepth 100000 in
theorem c_X3_settingOf (l : Launch) (D : va_G) (y : Nat → ClassId) (a0 a1 a2 : Nat) (zh : Nat) (r : gR) (p0 : Int32) : Met l yX3_settingOf wsX3_settingOf ({ frames := 0, cells := 0, slots := 0, locals := 0 }) (gP D y [.ref a0, .int p0] zh [(a0, soF a1 a2 r), (a1, soV y r), (a2, soW y r)]) (vp_Si (fun v : Int32 => f_X3_settingOf r p0 = v)) 0 0 (fun _ => False) := by
  refine Met.ofW (cc := cX3_settingOf) (maxL := 2) (ret := (some .int)) (by decide) rfl ?_
  intro p e s m args below meth c s₁ B hml hv
  obtain ⟨rfl, hsz, hP, hE, hD⟩ := hv
  have hx := B.exec
  have hb := B.bytes
  have hr := B.returns
  have hts := atoms_spec (ws := wsX3_settingOf) B.pre
  have hown : s.vm.findClass RX3 = some m.cls := findClass_of_methodNamed B.named
  have hlocks := B.notSynchronized
  have w_0 := hts (.fieldLink RX3 15 "GapLines$State" "every" "I") (List.mem_cons_of_mem _ (List.mem_append_left _ (List.mem_of_getElem? (i := 1) rfl)))
  have hi3 : ∀ w ∈ u_ws RX3 TX3 15, w ∈ wsX3_settingOf := fun w h => (List.mem_cons_of_mem _ (List.mem_append_right _ h))
  have w_2 := hts (.fieldLink RX3 9 "GapLines$State" "endurance" "I") (List.mem_cons_of_mem _ (List.mem_append_left _ (List.mem_of_getElem? (i := 0) rfl)))
  have hl := lv_entry ([.ref a0, .int p0]) (n := 2) (Nat.le_of_ble_eq_true rfl)
  rw [lg_entry_eq]
  generalize (lg_sl ([.ref a0, .int p0]) ++ List.replicate (2 - (lg_sl ([.ref a0, .int p0])).length) Slot.unset).toArray = ls at hl ⊢
  have hl : lv_has ls 2 [(0, .ref a0), (1, .int p0)] := hl
  have hF := f_X3_settingOf_s r p0
  refine lv_iload_n hx hb dX3_settingOf_0 rfl (lv_at hl 1 rfl) ?_
  refine lv_if_ne (tgt := 11) hx hb dX3_settingOf_1 (by decide) (fun c_1 => ?_) (fun c_1 => ?_)
  · have hF := hF.trans (if_neg c_1)
    refine lv_aload_n hx hb dX3_settingOf_11 rfl (lv_at hl 0 rfl) ?_
    refine va_get (D := D) (ci := 2) (v := .int (r 12)) (C := RX3) (T := TX3) (N := 15) hx hb hts hi3 hown hE.1 hP 0 rfl rfl 12 (by decide) w_0 (fun _ h9 => h9) rfl dX3_settingOf_12 ?_
    exact W.iret (v := (r 12)) hx hb hr (fun t ht hW => ⟨(r 12), rfl, hF, ht⟩) (fun _ h => nomatch h) dX3_settingOf_15
  · have hF := hF.trans (if_pos c_1)
    refine lv_aload_n hx hb dX3_settingOf_4 rfl (lv_at hl 0 rfl) ?_
    refine va_get (D := D) (ci := 2) (v := .int (r 11)) (C := RX3) (T := TX3) (N := 15) hx hb hts hi3 hown hE.1 hP 0 rfl rfl 11 (by decide) w_2 (fun _ h9 => h9) rfl dX3_settingOf_5 ?_
    refine lv_goto (tgt := 15) hx hb dX3_settingOf_8 (by decide) ?_
    exact W.iret (v := (r 11)) hx hb hr (fun t ht hW => ⟨(r 11), rfl, hF, ht⟩) (fun _ h => nomatch h) dX3_settingOf_15

def f_X3_greatestWear_L9 (r : gR) : Nat → Int32 → Int32 → Int32
  | 0, _, _ => 0
  | n + 1, x1, x2 =>
    if (r 0) < x2 then
    x1
  else
    gLet (if x1 < (r (45 + x2.toNatClampNeg)) then (r (45 + x2.toNatClampNeg)) else x1) (fun (v2 : Int32) =>
      f_X3_greatestWear_L9 r n v2 (x2 + 1))
theorem f_X3_greatestWear_L9_s (r : gR) (n : Nat) (x1 : Int32) (x2 : Int32) : f_X3_greatestWear_L9 r (n + 1) x1 x2 =
    (if (r 0) < x2 then
    x1
  else
    gLet (if x1 < (r (45 + x2.toNatClampNeg)) then (r (45 + x2.toNatClampNeg)) else x1) (fun (v2 : Int32) =>
      f_X3_greatestWear_L9 r n v2 (x2 + 1))) := rfl
def f_X3_greatestWear (r : gR) : Int32 :=
    f_X3_greatestWear_L9 r (((r 0).toInt + 1 - (1 : Int32).toInt).toNat + 1) (r 45) 1
theorem f_X3_greatestWear_s (r : gR) : f_X3_greatestWear r =
    (f_X3_greatestWear_L9 r (((r 0).toInt + 1 - (1 : Int32).toInt).toNat + 1) (r 45) 1) := rfl
theorem hd_X3_greatestWear : yX3_greatestWear.cls = RX3 ∧ yX3_greatestWear.cls ≠ "java/lang/invoke/MethodHandle" ∧ yX3_greatestWear.cls ≠ "java/lang/invoke/VarHandle" ∧ (parseMethodDescriptor yX3_greatestWear.desc).map (fun d => d.parameters.length) = some 0 := by decide +kernel
set_option maxHeartbeats 4000000 in
set_option maxRecDepth 100000 in
theorem c_X3_greatestWear (l : Launch) (D : va_G) (y : Nat → ClassId) (a0 a1 a2 : Nat) (zh : Nat) (r : gR) (ho : okC r) : Met l yX3_greatestWear wsX3_greatestWear ({ frames := 1, cells := 0, slots := 0, locals := 13 }) (gP D y [.ref a0] zh [(a0, soF a1 a2 r), (a1, soV y r), (a2, soW y r)]) (vp_Si (fun v : Int32 => f_X3_greatestWear r = v)) 0 0 (fun _ => False) := by
  refine Met.ofW (cc := cX3_greatestWear) (maxL := 3) (ret := (some .int)) (by decide) rfl ?_
  intro p e s m args below meth c s₁ B hml hv
  obtain ⟨rfl, hsz, hP, hE, hD⟩ := hv
  have hx := B.exec
  have hb := B.bytes
  have hr := B.returns
  have hts := atoms_spec (ws := wsX3_greatestWear) B.pre
  have hown : s.vm.findClass RX3 = some m.cls := findClass_of_methodNamed B.named
  have hlocks := B.notSynchronized
  have w_0 := hts (.fieldLink RX3 25 "GapLines$State" "lines" "I") (List.mem_cons_of_mem _ (List.mem_append_left _ (List.mem_of_getElem? (i := 1) rfl)))
  have hi3 : ∀ w ∈ u_ws RX3 TX3 15, w ∈ wsX3_greatestWear := fun w h => (List.mem_cons_of_mem _ (List.mem_append_right _ h))
  have w_2 := hts (.fieldLink RX3 22 "GapLines$State" "wears" "[I") (List.mem_cons_of_mem _ (List.mem_append_left _ (List.mem_of_getElem? (i := 0) rfl)))
  have w_3 := hts (.methodLink RX3 76 Lib.Math.max.name) (List.mem_cons_of_mem _ (List.mem_append_left _ (List.mem_of_getElem? (i := 2) rfl)))
  have w_4 := hts (.static Lib.Math.max.name) (List.mem_cons_of_mem _ (List.mem_append_left _ (List.mem_of_getElem? (i := 3) rfl)))
  have w_5 := hts (.initialized "java/lang/Math") (List.mem_cons_of_mem _ (List.mem_append_left _ (List.mem_of_getElem? (i := 4) rfl)))
  have w_6 := hts (.code Lib.Math.max.name Lib.Math.max.code 2 (some .int)) (List.mem_cons_of_mem _ (List.mem_append_left _ (List.mem_of_getElem? (i := 5) rfl)))
  have hl := lv_entry ([.ref a0]) (n := 3) (Nat.le_of_ble_eq_true rfl)
  rw [lg_entry_eq]
  generalize (lg_sl ([.ref a0]) ++ List.replicate (3 - (lg_sl ([.ref a0])).length) Slot.unset).toArray = ls at hl ⊢
  have hl : lv_has ls 3 [(0, .ref a0)] := hl
  have loop_9 : ∀ (n : Nat) (x1 : Int32) (x2 : Int32) (hx2 : 0 ≤ x2.toInt), ((r 0).toInt + 1 - x2.toInt).toNat < n → f_X3_greatestWear r = f_X3_greatestWear_L9 r n x1 x2 → ∀ (ls : Array Slot), lv_has ls 3 [(0, .ref a0), (1, .int x1), (2, .int x2)] → W p l e (headSpec wsX3_greatestWear ({ frames := 1, cells := 0, slots := 0, locals := 13 })).room s m ([.ref a0] : List Value).toArray below meth c s.heap [] 0 0 (MQ below (vp_Si (fun v : Int32 => f_X3_greatestWear r = v)) ([.ref a0] : List Value).toArray s 0 0 (fun _ => False)) (F0 m 9 ls []) := by
    intro n
    induction n with
    | zero =>
      intro x1 x2 hx2 hμ
      exact absurd hμ (Nat.not_lt_zero _)
    | succ n ih =>
      intro x1 x2 hx2 hμ hF ls hl
      have hF := hF.trans (f_X3_greatestWear_L9_s r n x1 x2)
      refine lv_iload_n hx hb dX3_greatestWear_9 rfl (lv_at hl 2 rfl) ?_
      refine lv_aload_n hx hb dX3_greatestWear_10 rfl (lv_at hl 0 rfl) ?_
      refine va_get (D := D) (ci := 2) (v := .int (r 0)) (C := RX3) (T := TX3) (N := 15) hx hb hts hi3 hown hE.1 hP 0 rfl rfl 0 (by decide) w_0 (fun _ h9 => h9) rfl dX3_greatestWear_11 ?_
      refine lv_icmp_gt (tgt := 34) hx hb dX3_greatestWear_14 (by decide) (fun c_1 => ?_) (fun c_1 => ?_)
      · have hF := hF.trans (if_pos c_1)
        refine lv_iload_n hx hb dX3_greatestWear_34 rfl (lv_at hl 1 rfl) ?_
        exact W.iret (v := x1) hx hb hr (fun t ht hW => ⟨x1, rfl, hF, ht⟩) (fun _ h => nomatch h) dX3_greatestWear_35
      · have hF := hF.trans (if_neg c_1)
        refine lv_iload_n hx hb dX3_greatestWear_17 rfl (lv_at hl 1 rfl) ?_
        refine lv_aload_n hx hb dX3_greatestWear_18 rfl (lv_at hl 0 rfl) ?_
        refine va_get (D := D) (ci := 2) (v := .ref a2) (C := RX3) (T := TX3) (N := 15) hx hb hts hi3 hown hE.1 hP 0 rfl rfl 14 (by decide) w_2 (fun _ h9 => h9) rfl dX3_greatestWear_19 ?_
        refine lv_iload_n hx hb dX3_greatestWear_22 rfl (lv_at hl 2 rfl) ?_
        refine xa_iald (k := x2.toNatClampNeg) (v := r (45 + x2.toNatClampNeg)) hx hb hE.1 hP 2 0 rfl rfl (ix_le hx2 (by assumption) ho.2.1) rfl rfl dX3_greatestWear_23 ?_
        refine va_mmax hx hb (hml.trans hl.1.symm) hown w_3 w_4 w_5 w_6 (Nat.le_of_ble_eq_true rfl) (Nat.le_of_ble_eq_true rfl) (Nat.le_of_ble_eq_true rfl) (Nat.le_of_ble_eq_true rfl) dX3_greatestWear_24 ?_
        obtain ⟨v2, ev2⟩ : ∃ z : Int32, (if x1 < (r (45 + x2.toNatClampNeg)) then (r (45 + x2.toNatClampNeg)) else x1) = z := ⟨_, rfl⟩
        rw [ev2]
        have hF := hF.trans (gLet_e ev2)
        refine lv_istore_n (lv' := [(1, .int v2), (0, .ref a0), (2, .int x2)]) hx hb dX3_greatestWear_27 rfl hl (by decide) rfl (fun ls hl => ?_)
        refine lv_iinc (v := (x2 + 1)) (lv' := [(2, .int (x2 + 1)), (1, .int v2), (0, .ref a0)]) hx hb dX3_greatestWear_28 hl (k := 2) rfl rfl (by decide) rfl (fun ls hl => ?_)
        refine lv_goto (tgt := 9) hx hb dX3_greatestWear_31 (by decide) ?_
        exact ih v2 (x2 + 1) (up_nn (by assumption) ho.2.1 hx2) (lp_le (by assumption) ho.2.1 hμ) hF ls (lv_sub hl [2, 1, 0] rfl)
  have hF := f_X3_greatestWear_s r
  refine lv_aload_n hx hb dX3_greatestWear_0 rfl (lv_at hl 0 rfl) ?_
  refine va_get (D := D) (ci := 2) (v := .ref a2) (C := RX3) (T := TX3) (N := 15) hx hb hts hi3 hown hE.1 hP 0 rfl rfl 14 (by decide) w_2 (fun _ h9 => h9) rfl dX3_greatestWear_1 ?_
  refine lv_iconst (v := 0) hx hb dX3_greatestWear_4 (by decide) ?_
  refine xa_iald (k := 0) (v := r 45) hx hb hE.1 hP 2 0 rfl rfl (xin (by decide)) rfl rfl dX3_greatestWear_5 ?_
  refine lv_istore_n (lv' := [(1, .int (r 45)), (0, .ref a0)]) hx hb dX3_greatestWear_6 rfl hl (by decide) rfl (fun ls hl => ?_)
  refine lv_iconst (v := 1) hx hb dX3_greatestWear_7 (by decide) ?_
  refine lv_istore_n (lv' := [(2, .int 1), (1, .int (r 45)), (0, .ref a0)]) hx hb dX3_greatestWear_8 rfl hl (by decide) rfl (fun ls hl => ?_)
  exact loop_9 _ (r 45) 1 (by decide) (Nat.lt_succ_self _) hF ls (lv_sub hl [2, 1, 0] rfl)

def f_X3_leastWear_L9 (r : gR) : Nat → Int32 → Int32 → Int32
  | 0, _, _ => 0
  | n + 1, x1, x2 =>
    if (r 0) < x2 then
    x1
  else
    gLet (if (r (45 + x2.toNatClampNeg)) < x1 then (r (45 + x2.toNatClampNeg)) else x1) (fun (v2 : Int32) =>
      f_X3_leastWear_L9 r n v2 (x2 + 1))
theorem f_X3_leastWear_L9_s (r : gR) (n : Nat) (x1 : Int32) (x2 : Int32) : f_X3_leastWear_L9 r (n + 1) x1 x2 =
    (if (r 0) < x2 then
    x1
  else
    gLet (if (r (45 + x2.toNatClampNeg)) < x1 then (r (45 + x2.toNatClampNeg)) else x1) (fun (v2 : Int32) =>
      f_X3_leastWear_L9 r n v2 (x2 + 1))) := rfl
def f_X3_leastWear (r : gR) : Int32 :=
    f_X3_leastWear_L9 r (((r 0).toInt + 1 - (1 : Int32).toInt).toNat + 1) (r 45) 1
theorem f_X3_leastWear_s (r : gR) : f_X3_leastWear r =
    (f_X3_leastWear_L9 r (((r 0).toInt + 1 - (1 : Int32).toInt).toNat + 1) (r 45) 1) := rfl
theorem hd_X3_leastWear : yX3_leastWear.cls = RX3 ∧ yX3_leastWear.cls ≠ "java/lang/invoke/MethodHandle" ∧ yX3_leastWear.cls ≠ "java/lang/invoke/VarHandle" ∧ (parseMethodDescriptor yX3_leastWear.desc).map (fun d => d.parameters.length) = some 0 := by decide +kernel
set_option maxHeartbeats 4000000 in
set_option maxRecDepth 100000 in
theorem c_X3_leastWear (l : Launch) (D : va_G) (y : Nat → ClassId) (a0 a1 a2 : Nat) (zh : Nat) (r : gR) (ho : okC r) : Met l yX3_leastWear wsX3_leastWear ({ frames := 1, cells := 0, slots := 0, locals := 13 }) (gP D y [.ref a0] zh [(a0, soF a1 a2 r), (a1, soV y r), (a2, soW y r)]) (vp_Si (fun v : Int32 => f_X3_leastWear r = v)) 0 0 (fun _ => False) := by
  refine Met.ofW (cc := cX3_leastWear) (maxL := 3) (ret := (some .int)) (by decide) rfl ?_
  intro p e s m args below meth c s₁ B hml hv
  obtain ⟨rfl, hsz, hP, hE, hD⟩ := hv
  have hx := B.exec
  have hb := B.bytes
  have hr := B.returns
  have hts := atoms_spec (ws := wsX3_leastWear) B.pre
  have hown : s.vm.findClass RX3 = some m.cls := findClass_of_methodNamed B.named
  have hlocks := B.notSynchronized
  have w_0 := hts (.fieldLink RX3 25 "GapLines$State" "lines" "I") (List.mem_cons_of_mem _ (List.mem_append_left _ (List.mem_of_getElem? (i := 1) rfl)))
  have hi3 : ∀ w ∈ u_ws RX3 TX3 15, w ∈ wsX3_leastWear := fun w h => (List.mem_cons_of_mem _ (List.mem_append_right _ h))
  have w_2 := hts (.fieldLink RX3 22 "GapLines$State" "wears" "[I") (List.mem_cons_of_mem _ (List.mem_append_left _ (List.mem_of_getElem? (i := 0) rfl)))
  have w_3 := hts (.methodLink RX3 82 Lib.Math.min.name) (List.mem_cons_of_mem _ (List.mem_append_left _ (List.mem_of_getElem? (i := 2) rfl)))
  have w_4 := hts (.static Lib.Math.min.name) (List.mem_cons_of_mem _ (List.mem_append_left _ (List.mem_of_getElem? (i := 3) rfl)))
  have w_5 := hts (.initialized "java/lang/Math") (List.mem_cons_of_mem _ (List.mem_append_left _ (List.mem_of_getElem? (i := 4) rfl)))
  have w_6 := hts (.code Lib.Math.min.name Lib.Math.min.code 2 (some .int)) (List.mem_cons_of_mem _ (List.mem_append_left _ (List.mem_of_getElem? (i := 5) rfl)))
  have hl := lv_entry ([.ref a0]) (n := 3) (Nat.le_of_ble_eq_true rfl)
  rw [lg_entry_eq]
  generalize (lg_sl ([.ref a0]) ++ List.replicate (3 - (lg_sl ([.ref a0])).length) Slot.unset).toArray = ls at hl ⊢
  have hl : lv_has ls 3 [(0, .ref a0)] := hl
  have loop_9 : ∀ (n : Nat) (x1 : Int32) (x2 : Int32) (hx2 : 0 ≤ x2.toInt), ((r 0).toInt + 1 - x2.toInt).toNat < n → f_X3_leastWear r = f_X3_leastWear_L9 r n x1 x2 → ∀ (ls : Array Slot), lv_has ls 3 [(0, .ref a0), (1, .int x1), (2, .int x2)] → W p l e (headSpec wsX3_leastWear ({ frames := 1, cells := 0, slots := 0, locals := 13 })).room s m ([.ref a0] : List Value).toArray below meth c s.heap [] 0 0 (MQ below (vp_Si (fun v : Int32 => f_X3_leastWear r = v)) ([.ref a0] : List Value).toArray s 0 0 (fun _ => False)) (F0 m 9 ls []) := by
    intro n
    induction n with
    | zero =>
      intro x1 x2 hx2 hμ
      exact absurd hμ (Nat.not_lt_zero _)
    | succ n ih =>
      intro x1 x2 hx2 hμ hF ls hl
      have hF := hF.trans (f_X3_leastWear_L9_s r n x1 x2)
      refine lv_iload_n hx hb dX3_leastWear_9 rfl (lv_at hl 2 rfl) ?_
      refine lv_aload_n hx hb dX3_leastWear_10 rfl (lv_at hl 0 rfl) ?_
      refine va_get (D := D) (ci := 2) (v := .int (r 0)) (C := RX3) (T := TX3) (N := 15) hx hb hts hi3 hown hE.1 hP 0 rfl rfl 0 (by decide) w_0 (fun _ h9 => h9) rfl dX3_leastWear_11 ?_
      refine lv_icmp_gt (tgt := 34) hx hb dX3_leastWear_14 (by decide) (fun c_1 => ?_) (fun c_1 => ?_)
      · have hF := hF.trans (if_pos c_1)
        refine lv_iload_n hx hb dX3_leastWear_34 rfl (lv_at hl 1 rfl) ?_
        exact W.iret (v := x1) hx hb hr (fun t ht hW => ⟨x1, rfl, hF, ht⟩) (fun _ h => nomatch h) dX3_leastWear_35
      · have hF := hF.trans (if_neg c_1)
        refine lv_iload_n hx hb dX3_leastWear_17 rfl (lv_at hl 1 rfl) ?_
        refine lv_aload_n hx hb dX3_leastWear_18 rfl (lv_at hl 0 rfl) ?_
        refine va_get (D := D) (ci := 2) (v := .ref a2) (C := RX3) (T := TX3) (N := 15) hx hb hts hi3 hown hE.1 hP 0 rfl rfl 14 (by decide) w_2 (fun _ h9 => h9) rfl dX3_leastWear_19 ?_
        refine lv_iload_n hx hb dX3_leastWear_22 rfl (lv_at hl 2 rfl) ?_
        refine xa_iald (k := x2.toNatClampNeg) (v := r (45 + x2.toNatClampNeg)) hx hb hE.1 hP 2 0 rfl rfl (ix_le hx2 (by assumption) ho.2.1) rfl rfl dX3_leastWear_23 ?_
        refine va_mmin hx hb (hml.trans hl.1.symm) hown w_3 w_4 w_5 w_6 (Nat.le_of_ble_eq_true rfl) (Nat.le_of_ble_eq_true rfl) (Nat.le_of_ble_eq_true rfl) (Nat.le_of_ble_eq_true rfl) dX3_leastWear_24 ?_
        obtain ⟨v2, ev2⟩ : ∃ z : Int32, (if (r (45 + x2.toNatClampNeg)) < x1 then (r (45 + x2.toNatClampNeg)) else x1) = z := ⟨_, rfl⟩
        rw [ev2]
        have hF := hF.trans (gLet_e ev2)
        refine lv_istore_n (lv' := [(1, .int v2), (0, .ref a0), (2, .int x2)]) hx hb dX3_leastWear_27 rfl hl (by decide) rfl (fun ls hl => ?_)
        refine lv_iinc (v := (x2 + 1)) (lv' := [(2, .int (x2 + 1)), (1, .int v2), (0, .ref a0)]) hx hb dX3_leastWear_28 hl (k := 2) rfl rfl (by decide) rfl (fun ls hl => ?_)
        refine lv_goto (tgt := 9) hx hb dX3_leastWear_31 (by decide) ?_
        exact ih v2 (x2 + 1) (up_nn (by assumption) ho.2.1 hx2) (lp_le (by assumption) ho.2.1 hμ) hF ls (lv_sub hl [2, 1, 0] rfl)
  have hF := f_X3_leastWear_s r
  refine lv_aload_n hx hb dX3_leastWear_0 rfl (lv_at hl 0 rfl) ?_
  refine va_get (D := D) (ci := 2) (v := .ref a2) (C := RX3) (T := TX3) (N := 15) hx hb hts hi3 hown hE.1 hP 0 rfl rfl 14 (by decide) w_2 (fun _ h9 => h9) rfl dX3_leastWear_1 ?_
  refine lv_iconst (v := 0) hx hb dX3_leastWear_4 (by decide) ?_
  refine xa_iald (k := 0) (v := r 45) hx hb hE.1 hP 2 0 rfl rfl (xin (by decide)) rfl rfl dX3_leastWear_5 ?_
  refine lv_istore_n (lv' := [(1, .int (r 45)), (0, .ref a0)]) hx hb dX3_leastWear_6 rfl hl (by decide) rfl (fun ls hl => ?_)
  refine lv_iconst (v := 1) hx hb dX3_leastWear_7 (by decide) ?_
  refine lv_istore_n (lv' := [(2, .int 1), (1, .int (r 45)), (0, .ref a0)]) hx hb dX3_leastWear_8 rfl hl (by decide) rfl (fun ls hl => ?_)
  exact loop_9 _ (r 45) 1 (by decide) (Nat.lt_succ_self _) hF ls (lv_sub hl [2, 1, 0] rfl)

def f_X3_number (r : gR) (p0 : Int32) : Int32 :=
    if p0 = 0 then
    (r 0)
  else
    if p0 = 1 then
      (r 2)
    else
      if p0 = 2 then
        (r 3)
      else
        if p0 = 3 then
          (r 4)
        else
          if p0 = 4 then
            (r 5)
          else
            if p0 = 5 then
              (r 6)
            else
              if p0 = 6 then
                gLet (f_X3_greatestWear r) (fun (v9 : Int32) =>
                  v9)
              else
                if p0 = 7 then
                  gLet (f_X3_leastWear r) (fun (v12 : Int32) =>
                    v12)
                else
                  if p0 = 8 then
                    (r 7)
                  else
                    if p0 = 9 then
                      if (r 8) = 0 then
                        0
                      else
                        1
                    else
                      if p0 = 10 then
                        (r 9)
                      else
                        if p0 = 11 then
                          (r 10)
                        else
                          0
theorem f_X3_number_s (r : gR) (p0 : Int32) : f_X3_number r p0 =
    (if p0 = 0 then
    (r 0)
  else
    if p0 = 1 then
      (r 2)
    else
      if p0 = 2 then
        (r 3)
      else
        if p0 = 3 then
          (r 4)
        else
          if p0 = 4 then
            (r 5)
          else
            if p0 = 5 then
              (r 6)
            else
              if p0 = 6 then
                gLet (f_X3_greatestWear r) (fun (v9 : Int32) =>
                  v9)
              else
                if p0 = 7 then
                  gLet (f_X3_leastWear r) (fun (v12 : Int32) =>
                    v12)
                else
                  if p0 = 8 then
                    (r 7)
                  else
                    if p0 = 9 then
                      if (r 8) = 0 then
                        0
                      else
                        1
                    else
                      if p0 = 10 then
                        (r 9)
                      else
                        if p0 = 11 then
                          (r 10)
                        else
                          0) := rfl
theorem hd_X3_number : yX3_number.cls = RX3 ∧ yX3_number.cls ≠ "java/lang/invoke/MethodHandle" ∧ yX3_number.cls ≠ "java/lang/invoke/VarHandle" ∧ (parseMethodDescriptor yX3_number.desc).map (fun d => d.parameters.length) = some 1 := by decide +kernel
set_option maxHeartbeats 4000000 in
set_option maxRecDepth 100000 in
theorem c_X3_number (l : Launch) (D : va_G) (y : Nat → ClassId) (a0 a1 a2 : Nat) (zh : Nat) (r : gR) (p0 : Int32) (ho : okC r) : Met l yX3_number wsX3_number ({ frames := 2, cells := 0, slots := 0, locals := 35 }) (gP D y [.ref a0, .int p0] zh [(a0, soF a1 a2 r), (a1, soV y r), (a2, soW y r)]) (vp_Si (fun v : Int32 => f_X3_number r p0 = v)) 0 0 (fun _ => False) := by
  refine Met.ofW (cc := cX3_number) (maxL := 2) (ret := (some .int)) (by decide) rfl ?_
  intro p e s m args below meth c s₁ B hml hv
  obtain ⟨rfl, hsz, hP, hE, hD⟩ := hv
  have hx := B.exec
  have hb := B.bytes
  have hr := B.returns
  have hts := atoms_spec (ws := wsX3_number) B.pre
  have hown : s.vm.findClass RX3 = some m.cls := findClass_of_methodNamed B.named
  have hlocks := B.notSynchronized
  have w_0 := hts (.fieldLink RX3 25 "GapLines$State" "lines" "I") (List.mem_cons_of_mem _ (List.mem_append_left _ (List.mem_append_left _ (List.mem_of_getElem? (i := 0) rfl))))
  have hi3 : ∀ w ∈ u_ws RX3 TX3 15, w ∈ wsX3_number := fun w h => (List.mem_cons_of_mem _ (List.mem_append_right _ h))
  have w_2 := hts (.fieldLink RX3 31 "GapLines$State" "start" "I") (List.mem_cons_of_mem _ (List.mem_append_left _ (List.mem_append_left _ (List.mem_of_getElem? (i := 1) rfl))))
  have w_3 := hts (.fieldLink RX3 34 "GapLines$State" "gap" "I") (List.mem_cons_of_mem _ (List.mem_append_left _ (List.mem_append_left _ (List.mem_of_getElem? (i := 2) rfl))))
  have w_4 := hts (.fieldLink RX3 37 "GapLines$State" "spares" "I") (List.mem_cons_of_mem _ (List.mem_append_left _ (List.mem_append_left _ (List.mem_of_getElem? (i := 3) rfl))))
  have w_5 := hts (.fieldLink RX3 40 "GapLines$State" "writes" "I") (List.mem_cons_of_mem _ (List.mem_append_left _ (List.mem_append_left _ (List.mem_of_getElem? (i := 4) rfl))))
  have w_6 := hts (.fieldLink RX3 43 "GapLines$State" "moves" "I") (List.mem_cons_of_mem _ (List.mem_append_left _ (List.mem_append_left _ (List.mem_of_getElem? (i := 5) rfl))))
  have w_7 := hts (.fieldLink RX3 46 "GapLines$State" "writesSinceMove" "I") (List.mem_cons_of_mem _ (List.mem_append_left _ (List.mem_append_left _ (List.mem_of_getElem? (i := 6) rfl))))
  have w_8 := hts (.fieldLink RX3 55 "GapLines$State" "dead" "Z") (List.mem_cons_of_mem _ (List.mem_append_left _ (List.mem_append_left _ (List.mem_of_getElem? (i := 7) rfl))))
  have w_9 := hts (.fieldLink RX3 49 "GapLines$State" "replaced" "I") (List.mem_cons_of_mem _ (List.mem_append_left _ (List.mem_append_left _ (List.mem_of_getElem? (i := 8) rfl))))
  have w_10 := hts (.fieldLink RX3 52 "GapLines$State" "laid" "I") (List.mem_cons_of_mem _ (List.mem_append_left _ (List.mem_append_left _ (List.mem_of_getElem? (i := 9) rfl))))
  have hl := lv_entry ([.ref a0, .int p0]) (n := 2) (Nat.le_of_ble_eq_true rfl)
  rw [lg_entry_eq]
  generalize (lg_sl ([.ref a0, .int p0]) ++ List.replicate (2 - (lg_sl ([.ref a0, .int p0])).length) Slot.unset).toArray = ls at hl ⊢
  have hl : lv_has ls 2 [(0, .ref a0), (1, .int p0)] := hl
  have hF := f_X3_number_s r p0
  refine lv_iload_n hx hb dX3_number_0 rfl (lv_at hl 1 rfl) ?_
  by_cases c_1 : p0 = 0
  · have hF := hF.trans (if_pos c_1)
    refine lv_tableIn (off := 63) (tgt := 64) hx hb dX3_number_1 (by rw [c_1]; decide) (by rw [c_1]; decide) (by rw [c_1]; rfl) (by decide) ?_
    refine lv_aload_n hx hb dX3_number_64 rfl (lv_at hl 0 rfl) ?_
    refine va_get (D := D) (ci := 2) (v := .int (r 0)) (C := RX3) (T := TX3) (N := 15) hx hb hts hi3 hown hE.1 hP 0 rfl rfl 0 (by decide) w_0 (fun _ h9 => h9) rfl dX3_number_65 ?_
    exact W.iret (v := (r 0)) hx hb hr (fun t ht hW => ⟨(r 0), rfl, hF, ht⟩) (fun _ h => nomatch h) dX3_number_68
  · have hF := hF.trans (if_neg c_1)
    by_cases c_2 : p0 = 1
    · have hF := hF.trans (if_pos c_2)
      refine lv_tableIn (off := 68) (tgt := 69) hx hb dX3_number_1 (by rw [c_2]; decide) (by rw [c_2]; decide) (by rw [c_2]; rfl) (by decide) ?_
      refine lv_aload_n hx hb dX3_number_69 rfl (lv_at hl 0 rfl) ?_
      refine va_get (D := D) (ci := 2) (v := .int (r 2)) (C := RX3) (T := TX3) (N := 15) hx hb hts hi3 hown hE.1 hP 0 rfl rfl 2 (by decide) w_2 (fun _ h9 => h9) rfl dX3_number_70 ?_
      exact W.iret (v := (r 2)) hx hb hr (fun t ht hW => ⟨(r 2), rfl, hF, ht⟩) (fun _ h => nomatch h) dX3_number_73
    · have hF := hF.trans (if_neg c_2)
      by_cases c_3 : p0 = 2
      · have hF := hF.trans (if_pos c_3)
        refine lv_tableIn (off := 73) (tgt := 74) hx hb dX3_number_1 (by rw [c_3]; decide) (by rw [c_3]; decide) (by rw [c_3]; rfl) (by decide) ?_
        refine lv_aload_n hx hb dX3_number_74 rfl (lv_at hl 0 rfl) ?_
        refine va_get (D := D) (ci := 2) (v := .int (r 3)) (C := RX3) (T := TX3) (N := 15) hx hb hts hi3 hown hE.1 hP 0 rfl rfl 3 (by decide) w_3 (fun _ h9 => h9) rfl dX3_number_75 ?_
        exact W.iret (v := (r 3)) hx hb hr (fun t ht hW => ⟨(r 3), rfl, hF, ht⟩) (fun _ h => nomatch h) dX3_number_78
      · have hF := hF.trans (if_neg c_3)
        by_cases c_4 : p0 = 3
        · have hF := hF.trans (if_pos c_4)
          refine lv_tableIn (off := 78) (tgt := 79) hx hb dX3_number_1 (by rw [c_4]; decide) (by rw [c_4]; decide) (by rw [c_4]; rfl) (by decide) ?_
          refine lv_aload_n hx hb dX3_number_79 rfl (lv_at hl 0 rfl) ?_
          refine va_get (D := D) (ci := 2) (v := .int (r 4)) (C := RX3) (T := TX3) (N := 15) hx hb hts hi3 hown hE.1 hP 0 rfl rfl 4 (by decide) w_4 (fun _ h9 => h9) rfl dX3_number_80 ?_
          exact W.iret (v := (r 4)) hx hb hr (fun t ht hW => ⟨(r 4), rfl, hF, ht⟩) (fun _ h => nomatch h) dX3_number_83
        · have hF := hF.trans (if_neg c_4)
          by_cases c_5 : p0 = 4
          · have hF := hF.trans (if_pos c_5)
            refine lv_tableIn (off := 83) (tgt := 84) hx hb dX3_number_1 (by rw [c_5]; decide) (by rw [c_5]; decide) (by rw [c_5]; rfl) (by decide) ?_
            refine lv_aload_n hx hb dX3_number_84 rfl (lv_at hl 0 rfl) ?_
            refine va_get (D := D) (ci := 2) (v := .int (r 5)) (C := RX3) (T := TX3) (N := 15) hx hb hts hi3 hown hE.1 hP 0 rfl rfl 5 (by decide) w_5 (fun _ h9 => h9) rfl dX3_number_85 ?_
            exact W.iret (v := (r 5)) hx hb hr (fun t ht hW => ⟨(r 5), rfl, hF, ht⟩) (fun _ h => nomatch h) dX3_number_88
          · have hF := hF.trans (if_neg c_5)
            by_cases c_6 : p0 = 5
            · have hF := hF.trans (if_pos c_6)
              refine lv_tableIn (off := 88) (tgt := 89) hx hb dX3_number_1 (by rw [c_6]; decide) (by rw [c_6]; decide) (by rw [c_6]; rfl) (by decide) ?_
              refine lv_aload_n hx hb dX3_number_89 rfl (lv_at hl 0 rfl) ?_
              refine va_get (D := D) (ci := 2) (v := .int (r 6)) (C := RX3) (T := TX3) (N := 15) hx hb hts hi3 hown hE.1 hP 0 rfl rfl 6 (by decide) w_6 (fun _ h9 => h9) rfl dX3_number_90 ?_
              exact W.iret (v := (r 6)) hx hb hr (fun t ht hW => ⟨(r 6), rfl, hF, ht⟩) (fun _ h => nomatch h) dX3_number_93
            · have hF := hF.trans (if_neg c_6)
              by_cases c_7 : p0 = 6
              · have hF := hF.trans (if_pos c_7)
                refine lv_tableIn (off := 93) (tgt := 94) hx hb dX3_number_1 (by rw [c_7]; decide) (by rw [c_7]; decide) (by rw [c_7]; rfl) (by decide) ?_
                refine lv_aload_n hx hb dX3_number_94 rfl (lv_at hl 0 rfl) ?_
                refine xs_calli (va_runV (As := []) (rest := []) ⟨hx, hb, hml, hown, hts⟩ (c_X3_greatestWear l D y a0 a1 a2 s.heap.size r ho) (cwV 0 hts gX3_number_X3_greatestWear rfl rfl rfl hd_X3_greatestWear ⟨Nat.le_of_ble_eq_true rfl, Nat.le_of_ble_eq_true rfl⟩) (gV (q := (RX3, TX3, 15)) hE hP hD 0 rfl rfl) rfl rfl hl.1 rfl (lv_room (Nat.le_of_ble_eq_true rfl)) dX3_number_95 ⟨Nat.le_of_ble_eq_true rfl, Nat.le_of_ble_eq_true rfl⟩) (fun v9 h8 => ?_)
                have hF := hF.trans (gLet_e h8)
                exact W.iret (v := v9) hx hb hr (fun t ht hW => ⟨v9, rfl, hF, ht⟩) (fun _ h => nomatch h) dX3_number_98
              · have hF := hF.trans (if_neg c_7)
                by_cases c_10 : p0 = 7
                · have hF := hF.trans (if_pos c_10)
                  refine lv_tableIn (off := 98) (tgt := 99) hx hb dX3_number_1 (by rw [c_10]; decide) (by rw [c_10]; decide) (by rw [c_10]; rfl) (by decide) ?_
                  refine lv_aload_n hx hb dX3_number_99 rfl (lv_at hl 0 rfl) ?_
                  refine xs_calli (va_runV (As := []) (rest := []) ⟨hx, hb, hml, hown, hts⟩ (c_X3_leastWear l D y a0 a1 a2 s.heap.size r ho) (cwV 0 hts gX3_number_X3_leastWear rfl rfl rfl hd_X3_leastWear ⟨Nat.le_of_ble_eq_true rfl, Nat.le_of_ble_eq_true rfl⟩) (gV (q := (RX3, TX3, 15)) hE hP hD 0 rfl rfl) rfl rfl hl.1 rfl (lv_room (Nat.le_of_ble_eq_true rfl)) dX3_number_100 ⟨Nat.le_of_ble_eq_true rfl, Nat.le_of_ble_eq_true rfl⟩) (fun v12 h11 => ?_)
                  have hF := hF.trans (gLet_e h11)
                  exact W.iret (v := v12) hx hb hr (fun t ht hW => ⟨v12, rfl, hF, ht⟩) (fun _ h => nomatch h) dX3_number_103
                · have hF := hF.trans (if_neg c_10)
                  by_cases c_13 : p0 = 8
                  · have hF := hF.trans (if_pos c_13)
                    refine lv_tableIn (off := 103) (tgt := 104) hx hb dX3_number_1 (by rw [c_13]; decide) (by rw [c_13]; decide) (by rw [c_13]; rfl) (by decide) ?_
                    refine lv_aload_n hx hb dX3_number_104 rfl (lv_at hl 0 rfl) ?_
                    refine va_get (D := D) (ci := 2) (v := .int (r 7)) (C := RX3) (T := TX3) (N := 15) hx hb hts hi3 hown hE.1 hP 0 rfl rfl 7 (by decide) w_7 (fun _ h9 => h9) rfl dX3_number_105 ?_
                    exact W.iret (v := (r 7)) hx hb hr (fun t ht hW => ⟨(r 7), rfl, hF, ht⟩) (fun _ h => nomatch h) dX3_number_108
                  · have hF := hF.trans (if_neg c_13)
                    by_cases c_14 : p0 = 9
                    · have hF := hF.trans (if_pos c_14)
                      refine lv_tableIn (off := 108) (tgt := 109) hx hb dX3_number_1 (by rw [c_14]; decide) (by rw [c_14]; decide) (by rw [c_14]; rfl) (by decide) ?_
                      refine lv_aload_n hx hb dX3_number_109 rfl (lv_at hl 0 rfl) ?_
                      refine va_get (D := D) (ci := 2) (v := .int (r 8)) (C := RX3) (T := TX3) (N := 15) hx hb hts hi3 hown hE.1 hP 0 rfl rfl 10 (by decide) w_8 (fun _ h9 => h9) rfl dX3_number_110 ?_
                      refine lv_if_eq (tgt := 120) hx hb dX3_number_113 (by decide) (fun c_15 => ?_) (fun c_15 => ?_)
                      · have hF := hF.trans (if_pos c_15)
                        refine lv_iconst (v := 0) hx hb dX3_number_120 (by decide) ?_
                        exact W.iret (v := 0) hx hb hr (fun t ht hW => ⟨0, rfl, hF, ht⟩) (fun _ h => nomatch h) dX3_number_121
                      · have hF := hF.trans (if_neg c_15)
                        refine lv_iconst (v := 1) hx hb dX3_number_116 (by decide) ?_
                        refine lv_goto (tgt := 121) hx hb dX3_number_117 (by decide) ?_
                        exact W.iret (v := 1) hx hb hr (fun t ht hW => ⟨1, rfl, hF, ht⟩) (fun _ h => nomatch h) dX3_number_121
                    · have hF := hF.trans (if_neg c_14)
                      by_cases c_16 : p0 = 10
                      · have hF := hF.trans (if_pos c_16)
                        refine lv_tableIn (off := 121) (tgt := 122) hx hb dX3_number_1 (by rw [c_16]; decide) (by rw [c_16]; decide) (by rw [c_16]; rfl) (by decide) ?_
                        refine lv_aload_n hx hb dX3_number_122 rfl (lv_at hl 0 rfl) ?_
                        refine va_get (D := D) (ci := 2) (v := .int (r 9)) (C := RX3) (T := TX3) (N := 15) hx hb hts hi3 hown hE.1 hP 0 rfl rfl 8 (by decide) w_9 (fun _ h9 => h9) rfl dX3_number_123 ?_
                        exact W.iret (v := (r 9)) hx hb hr (fun t ht hW => ⟨(r 9), rfl, hF, ht⟩) (fun _ h => nomatch h) dX3_number_126
                      · have hF := hF.trans (if_neg c_16)
                        by_cases c_17 : p0 = 11
                        · have hF := hF.trans (if_pos c_17)
                          refine lv_tableIn (off := 126) (tgt := 127) hx hb dX3_number_1 (by rw [c_17]; decide) (by rw [c_17]; decide) (by rw [c_17]; rfl) (by decide) ?_
                          refine lv_aload_n hx hb dX3_number_127 rfl (lv_at hl 0 rfl) ?_
                          refine va_get (D := D) (ci := 2) (v := .int (r 10)) (C := RX3) (T := TX3) (N := 15) hx hb hts hi3 hown hE.1 hP 0 rfl rfl 9 (by decide) w_10 (fun _ h9 => h9) rfl dX3_number_128 ?_
                          exact W.iret (v := (r 10)) hx hb hr (fun t ht hW => ⟨(r 10), rfl, hF, ht⟩) (fun _ h => nomatch h) dX3_number_131
                        · have hF := hF.trans (if_neg c_17)
                          refine lv_tableOut (tgt := 132) hx hb dX3_number_1 (by have q := And.intro trivial trivial; have q0 := sw_ne c_1 (n := 0) (by decide); have q1 := sw_ne c_2 (n := 1) (by decide); have q2 := sw_ne c_3 (n := 2) (by decide); have q3 := sw_ne c_4 (n := 3) (by decide); have q4 := sw_ne c_5 (n := 4) (by decide); have q5 := sw_ne c_6 (n := 5) (by decide); have q6 := sw_ne c_7 (n := 6) (by decide); have q7 := sw_ne c_10 (n := 7) (by decide); have q8 := sw_ne c_13 (n := 8) (by decide); have q9 := sw_ne c_14 (n := 9) (by decide); have q10 := sw_ne c_16 (n := 10) (by decide); have q11 := sw_ne c_17 (n := 11) (by decide); omega) (by decide) ?_
                          refine lv_iconst (v := 0) hx hb dX3_number_132 (by decide) ?_
                          exact W.iret (v := 0) hx hb hr (fun t ht hW => ⟨0, rfl, hF, ht⟩) (fun _ h => nomatch h) dX3_number_133

def f_X3_lineAt_L28 (r : gR) : Nat → Int32 → Int32 → Int32
  | 0, _, _ => 0
  | n + 1, x2, x3 =>
    if (r 0) ≤ x3 then
    (-1)
  else
    gLet (f_X3_rankOf r x3 (r 2)) (fun (v3 : Int32) =>
      if v3 = x2 then
        x3
      else
        f_X3_lineAt_L28 r n x2 (x3 + 1))
theorem f_X3_lineAt_L28_s (r : gR) (n : Nat) (x2 : Int32) (x3 : Int32) : f_X3_lineAt_L28 r (n + 1) x2 x3 =
    (if (r 0) ≤ x3 then
    (-1)
  else
    gLet (f_X3_rankOf r x3 (r 2)) (fun (v3 : Int32) =>
      if v3 = x2 then
        x3
      else
        f_X3_lineAt_L28 r n x2 (x3 + 1))) := rfl
def f_X3_lineAt (r : gR) (p0 : Int32) : Int32 :=
    if p0 = (r 3) then
    (-1)
  else
    if (r 3) ≤ p0 then
      f_X3_lineAt_L28 r (((r 0).toInt - (0 : Int32).toInt).toNat + 1) (p0 - 1) 0
    else
      f_X3_lineAt_L28 r (((r 0).toInt - (0 : Int32).toInt).toNat + 1) p0 0
theorem f_X3_lineAt_s (r : gR) (p0 : Int32) : f_X3_lineAt r p0 =
    (if p0 = (r 3) then
    (-1)
  else
    if (r 3) ≤ p0 then
      f_X3_lineAt_L28 r (((r 0).toInt - (0 : Int32).toInt).toNat + 1) (p0 - 1) 0
    else
      f_X3_lineAt_L28 r (((r 0).toInt - (0 : Int32).toInt).toNat + 1) p0 0) := rfl
theorem hd_X3_lineAt : yX3_lineAt.cls = RX3 ∧ yX3_lineAt.cls ≠ "java/lang/invoke/MethodHandle" ∧ yX3_lineAt.cls ≠ "java/lang/invoke/VarHandle" ∧ (parseMethodDescriptor yX3_lineAt.desc).map (fun d => d.parameters.length) = some 1 := by decide +kernel
set_option maxHeartbeats 4000000 in
set_option maxRecDepth 100000 in
theorem c_X3_lineAt (l : Launch) (D : va_G) (y : Nat → ClassId) (a0 a1 a2 : Nat) (zh : Nat) (r : gR) (p0 : Int32) : Met l yX3_lineAt wsX3_lineAt ({ frames := 1, cells := 0, slots := 0, locals := 22 }) (gP D y [.ref a0, .int p0] zh [(a0, soF a1 a2 r), (a1, soV y r), (a2, soW y r)]) (vp_Si (fun v : Int32 => f_X3_lineAt r p0 = v)) 0 0 (fun _ => False) := by
  refine Met.ofW (cc := cX3_lineAt) (maxL := 4) (ret := (some .int)) (by decide) rfl ?_
  intro p e s m args below meth c s₁ B hml hv
  obtain ⟨rfl, hsz, hP, hE, hD⟩ := hv
  have hx := B.exec
  have hb := B.bytes
  have hr := B.returns
  have hts := atoms_spec (ws := wsX3_lineAt) B.pre
  have hown : s.vm.findClass RX3 = some m.cls := findClass_of_methodNamed B.named
  have hlocks := B.notSynchronized
  have w_0 := hts (.fieldLink RX3 25 "GapLines$State" "lines" "I") (List.mem_cons_of_mem _ (List.mem_append_left _ (List.mem_of_getElem? (i := 1) rfl)))
  have hi3 : ∀ w ∈ u_ws RX3 TX3 15, w ∈ wsX3_lineAt := fun w h => (List.mem_cons_of_mem _ (List.mem_append_right _ h))
  have w_2 := hts (.fieldLink RX3 31 "GapLines$State" "start" "I") (List.mem_cons_of_mem _ (List.mem_append_left _ (List.mem_of_getElem? (i := 2) rfl)))
  have w_3 := hts (.fieldLink RX3 34 "GapLines$State" "gap" "I") (List.mem_cons_of_mem _ (List.mem_append_left _ (List.mem_of_getElem? (i := 0) rfl)))
  have hl := lv_entry ([.ref a0, .int p0]) (n := 4) (Nat.le_of_ble_eq_true rfl)
  rw [lg_entry_eq]
  generalize (lg_sl ([.ref a0, .int p0]) ++ List.replicate (4 - (lg_sl ([.ref a0, .int p0])).length) Slot.unset).toArray = ls at hl ⊢
  have hl : lv_has ls 4 [(0, .ref a0), (1, .int p0)] := hl
  have loop_28 : ∀ (n : Nat) (x2 : Int32) (x3 : Int32), ((r 0).toInt - x3.toInt).toNat < n → f_X3_lineAt r p0 = f_X3_lineAt_L28 r n x2 x3 → ∀ (ls : Array Slot), lv_has ls 4 [(0, .ref a0), (2, .int x2), (3, .int x3)] → W p l e (headSpec wsX3_lineAt ({ frames := 1, cells := 0, slots := 0, locals := 22 })).room s m ([.ref a0, .int p0] : List Value).toArray below meth c s.heap [] 0 0 (MQ below (vp_Si (fun v : Int32 => f_X3_lineAt r p0 = v)) ([.ref a0, .int p0] : List Value).toArray s 0 0 (fun _ => False)) (F0 m 28 ls []) := by
    intro n
    induction n with
    | zero =>
      intro x2 x3 hμ
      exact absurd hμ (Nat.not_lt_zero _)
    | succ n ih =>
      intro x2 x3 hμ hF ls hl
      have hF := hF.trans (f_X3_lineAt_L28_s r n x2 x3)
      refine lv_iload_n hx hb dX3_lineAt_28 rfl (lv_at hl 2 rfl) ?_
      refine lv_aload_n hx hb dX3_lineAt_29 rfl (lv_at hl 0 rfl) ?_
      refine va_get (D := D) (ci := 2) (v := .int (r 0)) (C := RX3) (T := TX3) (N := 15) hx hb hts hi3 hown hE.1 hP 0 rfl rfl 0 (by decide) w_0 (fun _ h9 => h9) rfl dX3_lineAt_30 ?_
      refine lv_icmp_ge (tgt := 57) hx hb dX3_lineAt_33 (by decide) (fun c_1 => ?_) (fun c_1 => ?_)
      · have hF := hF.trans (if_pos c_1)
        refine lv_iconst (v := (-1)) hx hb dX3_lineAt_57 (by decide) ?_
        exact W.iret (v := (-1)) hx hb hr (fun t ht hW => ⟨(-1), rfl, hF, ht⟩) (fun _ h => nomatch h) dX3_lineAt_58
      · have hF := hF.trans (if_neg c_1)
        refine lv_aload_n hx hb dX3_lineAt_36 rfl (lv_at hl 0 rfl) ?_
        refine lv_iload_n hx hb dX3_lineAt_37 rfl (lv_at hl 2 rfl) ?_
        refine lv_aload_n hx hb dX3_lineAt_38 rfl (lv_at hl 0 rfl) ?_
        refine va_get (D := D) (ci := 2) (v := .int (r 2)) (C := RX3) (T := TX3) (N := 15) hx hb hts hi3 hown hE.1 hP 0 rfl rfl 2 (by decide) w_2 (fun _ h9 => h9) rfl dX3_lineAt_39 ?_
        refine xs_calli (va_runV (As := [.int x3, .int (r 2)]) (rest := []) ⟨hx, hb, hml, hown, hts⟩ (c_X3_rankOf l D y a0 a1 a2 s.heap.size r x3 (r 2)) (cwV 2 hts gX3_lineAt_X3_rankOf rfl rfl rfl hd_X3_rankOf ⟨Nat.le_of_ble_eq_true rfl, Nat.le_of_ble_eq_true rfl⟩) (gV (q := (RX3, TX3, 15)) hE hP hD 0 rfl rfl) rfl rfl hl.1 rfl (lv_room (Nat.le_of_ble_eq_true rfl)) dX3_lineAt_42 ⟨Nat.le_of_ble_eq_true rfl, Nat.le_of_ble_eq_true rfl⟩) (fun v3 h2 => ?_)
        have hF := hF.trans (gLet_e h2)
        refine lv_iload_n hx hb dX3_lineAt_45 rfl (lv_at hl 1 rfl) ?_
        refine lv_icmp_ne (tgt := 51) hx hb dX3_lineAt_46 (by decide) (fun c_4 => ?_) (fun c_4 => ?_)
        · have hF := hF.trans (if_neg c_4)
          refine lv_iinc (v := (x3 + 1)) (lv' := [(3, .int (x3 + 1)), (0, .ref a0), (2, .int x2)]) hx hb dX3_lineAt_51 hl (k := 2) rfl rfl (by decide) rfl (fun ls hl => ?_)
          refine lv_goto (tgt := 28) hx hb dX3_lineAt_54 (by decide) ?_
          exact ih x2 (x3 + 1) (lp_up (by assumption) hμ) hF ls (lv_sub hl [1, 2, 0] rfl)
        · have hF := hF.trans (if_pos c_4)
          refine lv_iload_n hx hb dX3_lineAt_49 rfl (lv_at hl 2 rfl) ?_
          exact W.iret (v := x3) hx hb hr (fun t ht hW => ⟨x3, rfl, hF, ht⟩) (fun _ h => nomatch h) dX3_lineAt_50
  have hF := f_X3_lineAt_s r p0
  refine lv_iload_n hx hb dX3_lineAt_0 rfl (lv_at hl 1 rfl) ?_
  refine lv_aload_n hx hb dX3_lineAt_1 rfl (lv_at hl 0 rfl) ?_
  refine va_get (D := D) (ci := 2) (v := .int (r 3)) (C := RX3) (T := TX3) (N := 15) hx hb hts hi3 hown hE.1 hP 0 rfl rfl 3 (by decide) w_3 (fun _ h9 => h9) rfl dX3_lineAt_2 ?_
  refine lv_icmp_ne (tgt := 10) hx hb dX3_lineAt_5 (by decide) (fun c_5 => ?_) (fun c_5 => ?_)
  · have hF := hF.trans (if_neg c_5)
    refine lv_iload_n hx hb dX3_lineAt_10 rfl (lv_at hl 1 rfl) ?_
    refine lv_aload_n hx hb dX3_lineAt_11 rfl (lv_at hl 0 rfl) ?_
    refine va_get (D := D) (ci := 2) (v := .int (r 3)) (C := RX3) (T := TX3) (N := 15) hx hb hts hi3 hown hE.1 hP 0 rfl rfl 3 (by decide) w_3 (fun _ h9 => h9) rfl dX3_lineAt_12 ?_
    refine lv_icmp_ge (tgt := 22) hx hb dX3_lineAt_15 (by decide) (fun c_6 => ?_) (fun c_6 => ?_)
    · have hF := hF.trans (if_pos c_6)
      refine lv_iload_n hx hb dX3_lineAt_22 rfl (lv_at hl 1 rfl) ?_
      refine lv_iconst (v := 1) hx hb dX3_lineAt_23 (by decide) ?_
      refine lv_isub hx hb dX3_lineAt_24 ?_
      refine lv_istore_n (lv' := [(2, .int (p0 - 1)), (0, .ref a0), (1, .int p0)]) hx hb dX3_lineAt_25 rfl hl (by decide) rfl (fun ls hl => ?_)
      refine lv_iconst (v := 0) hx hb dX3_lineAt_26 (by decide) ?_
      refine lv_istore_n (lv' := [(3, .int 0), (2, .int (p0 - 1)), (0, .ref a0), (1, .int p0)]) hx hb dX3_lineAt_27 rfl hl (by decide) rfl (fun ls hl => ?_)
      exact loop_28 _ (p0 - 1) 0 (Nat.lt_succ_self _) hF ls (lv_sub hl [2, 1, 0] rfl)
    · have hF := hF.trans (if_neg c_6)
      refine lv_iload_n hx hb dX3_lineAt_18 rfl (lv_at hl 1 rfl) ?_
      refine lv_goto (tgt := 25) hx hb dX3_lineAt_19 (by decide) ?_
      refine lv_istore_n (lv' := [(2, .int p0), (0, .ref a0), (1, .int p0)]) hx hb dX3_lineAt_25 rfl hl (by decide) rfl (fun ls hl => ?_)
      refine lv_iconst (v := 0) hx hb dX3_lineAt_26 (by decide) ?_
      refine lv_istore_n (lv' := [(3, .int 0), (2, .int p0), (0, .ref a0), (1, .int p0)]) hx hb dX3_lineAt_27 rfl hl (by decide) rfl (fun ls hl => ?_)
      exact loop_28 _ p0 0 (Nat.lt_succ_self _) hF ls (lv_sub hl [2, 1, 0] rfl)
  · have hF := hF.trans (if_pos c_5)
    refine lv_iconst (v := (-1)) hx hb dX3_lineAt_8 (by decide) ?_
    exact W.iret (v := (-1)) hx hb hr (fun t ht hW => ⟨(-1), rfl, hF, ht⟩) (fun _ h => nomatch h) dX3_lineAt_9

def f_X3_movesUntilMoved (r : gR) (p0 : Int32) : Int32 :=
    gLet (f_X3_rankOf r p0 (r 2)) (fun (v2 : Int32) =>
    if (r 3) ≤ v2 then
      (((r 3) + (r 0)) - v2)
    else
      ((r 3) - v2))
theorem f_X3_movesUntilMoved_s (r : gR) (p0 : Int32) : f_X3_movesUntilMoved r p0 =
    (gLet (f_X3_rankOf r p0 (r 2)) (fun (v2 : Int32) =>
    if (r 3) ≤ v2 then
      (((r 3) + (r 0)) - v2)
    else
      ((r 3) - v2))) := rfl
theorem hd_X3_movesUntilMoved : yX3_movesUntilMoved.cls = RX3 ∧ yX3_movesUntilMoved.cls ≠ "java/lang/invoke/MethodHandle" ∧ yX3_movesUntilMoved.cls ≠ "java/lang/invoke/VarHandle" ∧ (parseMethodDescriptor yX3_movesUntilMoved.desc).map (fun d => d.parameters.length) = some 1 := by decide +kernel
set_option maxHeartbeats 4000000 in
set_option maxRecDepth 100000 in
theorem c_X3_movesUntilMoved (l : Launch) (D : va_G) (y : Nat → ClassId) (a0 a1 a2 : Nat) (zh : Nat) (r : gR) (p0 : Int32) : Met l yX3_movesUntilMoved wsX3_movesUntilMoved ({ frames := 1, cells := 0, slots := 0, locals := 22 }) (gP D y [.ref a0, .int p0] zh [(a0, soF a1 a2 r), (a1, soV y r), (a2, soW y r)]) (vp_Si (fun v : Int32 => f_X3_movesUntilMoved r p0 = v)) 0 0 (fun _ => False) := by
  refine Met.ofW (cc := cX3_movesUntilMoved) (maxL := 3) (ret := (some .int)) (by decide) rfl ?_
  intro p e s m args below meth c s₁ B hml hv
  obtain ⟨rfl, hsz, hP, hE, hD⟩ := hv
  have hx := B.exec
  have hb := B.bytes
  have hr := B.returns
  have hts := atoms_spec (ws := wsX3_movesUntilMoved) B.pre
  have hown : s.vm.findClass RX3 = some m.cls := findClass_of_methodNamed B.named
  have hlocks := B.notSynchronized
  have w_0 := hts (.fieldLink RX3 31 "GapLines$State" "start" "I") (List.mem_cons_of_mem _ (List.mem_append_left _ (List.mem_of_getElem? (i := 0) rfl)))
  have hi3 : ∀ w ∈ u_ws RX3 TX3 15, w ∈ wsX3_movesUntilMoved := fun w h => (List.mem_cons_of_mem _ (List.mem_append_right _ h))
  have w_2 := hts (.fieldLink RX3 34 "GapLines$State" "gap" "I") (List.mem_cons_of_mem _ (List.mem_append_left _ (List.mem_of_getElem? (i := 1) rfl)))
  have w_3 := hts (.fieldLink RX3 25 "GapLines$State" "lines" "I") (List.mem_cons_of_mem _ (List.mem_append_left _ (List.mem_of_getElem? (i := 2) rfl)))
  have hl := lv_entry ([.ref a0, .int p0]) (n := 3) (Nat.le_of_ble_eq_true rfl)
  rw [lg_entry_eq]
  generalize (lg_sl ([.ref a0, .int p0]) ++ List.replicate (3 - (lg_sl ([.ref a0, .int p0])).length) Slot.unset).toArray = ls at hl ⊢
  have hl : lv_has ls 3 [(0, .ref a0), (1, .int p0)] := hl
  have hF := f_X3_movesUntilMoved_s r p0
  refine lv_aload_n hx hb dX3_movesUntilMoved_0 rfl (lv_at hl 0 rfl) ?_
  refine lv_iload_n hx hb dX3_movesUntilMoved_1 rfl (lv_at hl 1 rfl) ?_
  refine lv_aload_n hx hb dX3_movesUntilMoved_2 rfl (lv_at hl 0 rfl) ?_
  refine va_get (D := D) (ci := 2) (v := .int (r 2)) (C := RX3) (T := TX3) (N := 15) hx hb hts hi3 hown hE.1 hP 0 rfl rfl 2 (by decide) w_0 (fun _ h9 => h9) rfl dX3_movesUntilMoved_3 ?_
  refine xs_calli (va_runV (As := [.int p0, .int (r 2)]) (rest := []) ⟨hx, hb, hml, hown, hts⟩ (c_X3_rankOf l D y a0 a1 a2 s.heap.size r p0 (r 2)) (cwV 2 hts gX3_movesUntilMoved_X3_rankOf rfl rfl rfl hd_X3_rankOf ⟨Nat.le_of_ble_eq_true rfl, Nat.le_of_ble_eq_true rfl⟩) (gV (q := (RX3, TX3, 15)) hE hP hD 0 rfl rfl) rfl rfl hl.1 rfl (lv_room (Nat.le_of_ble_eq_true rfl)) dX3_movesUntilMoved_6 ⟨Nat.le_of_ble_eq_true rfl, Nat.le_of_ble_eq_true rfl⟩) (fun v2 h1 => ?_)
  have hF := hF.trans (gLet_e h1)
  refine lv_istore_n (lv' := [(2, .int v2), (0, .ref a0), (1, .int p0)]) hx hb dX3_movesUntilMoved_9 rfl hl (by decide) rfl (fun ls hl => ?_)
  refine lv_iload_n hx hb dX3_movesUntilMoved_10 rfl (lv_at hl 0 rfl) ?_
  refine lv_aload_n hx hb dX3_movesUntilMoved_11 rfl (lv_at hl 1 rfl) ?_
  refine va_get (D := D) (ci := 2) (v := .int (r 3)) (C := RX3) (T := TX3) (N := 15) hx hb hts hi3 hown hE.1 hP 0 rfl rfl 3 (by decide) w_2 (fun _ h9 => h9) rfl dX3_movesUntilMoved_12 ?_
  refine lv_icmp_ge (tgt := 27) hx hb dX3_movesUntilMoved_15 (by decide) (fun c_3 => ?_) (fun c_3 => ?_)
  · have hF := hF.trans (if_pos c_3)
    refine lv_aload_n hx hb dX3_movesUntilMoved_27 rfl (lv_at hl 1 rfl) ?_
    refine va_get (D := D) (ci := 2) (v := .int (r 3)) (C := RX3) (T := TX3) (N := 15) hx hb hts hi3 hown hE.1 hP 0 rfl rfl 3 (by decide) w_2 (fun _ h9 => h9) rfl dX3_movesUntilMoved_28 ?_
    refine lv_aload_n hx hb dX3_movesUntilMoved_31 rfl (lv_at hl 1 rfl) ?_
    refine va_get (D := D) (ci := 2) (v := .int (r 0)) (C := RX3) (T := TX3) (N := 15) hx hb hts hi3 hown hE.1 hP 0 rfl rfl 0 (by decide) w_3 (fun _ h9 => h9) rfl dX3_movesUntilMoved_32 ?_
    refine lv_iadd hx hb dX3_movesUntilMoved_35 ?_
    refine lv_iload_n hx hb dX3_movesUntilMoved_36 rfl (lv_at hl 0 rfl) ?_
    refine lv_isub hx hb dX3_movesUntilMoved_37 ?_
    exact W.iret (v := (((r 3) + (r 0)) - v2)) hx hb hr (fun t ht hW => ⟨(((r 3) + (r 0)) - v2), rfl, hF, ht⟩) (fun _ h => nomatch h) dX3_movesUntilMoved_38
  · have hF := hF.trans (if_neg c_3)
    refine lv_aload_n hx hb dX3_movesUntilMoved_18 rfl (lv_at hl 1 rfl) ?_
    refine va_get (D := D) (ci := 2) (v := .int (r 3)) (C := RX3) (T := TX3) (N := 15) hx hb hts hi3 hown hE.1 hP 0 rfl rfl 3 (by decide) w_2 (fun _ h9 => h9) rfl dX3_movesUntilMoved_19 ?_
    refine lv_iload_n hx hb dX3_movesUntilMoved_22 rfl (lv_at hl 0 rfl) ?_
    refine lv_isub hx hb dX3_movesUntilMoved_23 ?_
    refine lv_goto (tgt := 38) hx hb dX3_movesUntilMoved_24 (by decide) ?_
    exact W.iret (v := ((r 3) - v2)) hx hb hr (fun t ht hW => ⟨((r 3) - v2), rfl, hF, ht⟩) (fun _ h => nomatch h) dX3_movesUntilMoved_38

def f_X3_placeAfterMoves (r : gR) (p0 : Int32) (p1 : Int32) : Int32 :=
    gLet (f_X3_hasLine r p0) (fun (v2 : Int32) =>
    if v2 = 0 then
      (-1)
    else
      gLet ((((r 0) - (r 3)) + p1) - (((r 0) - (r 3)) + p1) / ((r 0) + 1) * ((r 0) + 1)) (fun (v4 : Int32) =>
        gLet (((r 2) + ((((r 0) - (r 3)) + p1) / ((r 0) + 1))) - ((r 2) + ((((r 0) - (r 3)) + p1) / ((r 0) + 1))) / (r 0) * (r 0)) (fun (v5 : Int32) =>
          gLet (f_X3_rankOf r p0 v5) (fun (v7 : Int32) =>
            if ((r 0) - v4) ≤ v7 then
              (v7 + 1)
            else
              v7))))
theorem f_X3_placeAfterMoves_s (r : gR) (p0 : Int32) (p1 : Int32) : f_X3_placeAfterMoves r p0 p1 =
    (gLet (f_X3_hasLine r p0) (fun (v2 : Int32) =>
    if v2 = 0 then
      (-1)
    else
      gLet ((((r 0) - (r 3)) + p1) - (((r 0) - (r 3)) + p1) / ((r 0) + 1) * ((r 0) + 1)) (fun (v4 : Int32) =>
        gLet (((r 2) + ((((r 0) - (r 3)) + p1) / ((r 0) + 1))) - ((r 2) + ((((r 0) - (r 3)) + p1) / ((r 0) + 1))) / (r 0) * (r 0)) (fun (v5 : Int32) =>
          gLet (f_X3_rankOf r p0 v5) (fun (v7 : Int32) =>
            if ((r 0) - v4) ≤ v7 then
              (v7 + 1)
            else
              v7))))) := rfl
theorem hd_X3_placeAfterMoves : yX3_placeAfterMoves.cls = RX3 ∧ yX3_placeAfterMoves.cls ≠ "java/lang/invoke/MethodHandle" ∧ yX3_placeAfterMoves.cls ≠ "java/lang/invoke/VarHandle" ∧ (parseMethodDescriptor yX3_placeAfterMoves.desc).map (fun d => d.parameters.length) = some 2 := by decide +kernel
set_option maxHeartbeats 4000000 in
set_option maxRecDepth 100000 in
theorem c_X3_placeAfterMoves (l : Launch) (D : va_G) (y : Nat → ClassId) (a0 a1 a2 : Nat) (zh : Nat) (r : gR) (p0 : Int32) (p1 : Int32) (ho : okC r) : Met l yX3_placeAfterMoves wsX3_placeAfterMoves ({ frames := 1, cells := 0, slots := 0, locals := 22 }) (gP D y [.ref a0, .int p0, .int p1] zh [(a0, soF a1 a2 r), (a1, soV y r), (a2, soW y r)]) (vp_Si (fun v : Int32 => f_X3_placeAfterMoves r p0 p1 = v)) 0 0 (fun _ => False) := by
  refine Met.ofW (cc := cX3_placeAfterMoves) (maxL := 7) (ret := (some .int)) (by decide) rfl ?_
  intro p e s m args below meth c s₁ B hml hv
  obtain ⟨rfl, hsz, hP, hE, hD⟩ := hv
  have hx := B.exec
  have hb := B.bytes
  have hr := B.returns
  have hts := atoms_spec (ws := wsX3_placeAfterMoves) B.pre
  have hown : s.vm.findClass RX3 = some m.cls := findClass_of_methodNamed B.named
  have hlocks := B.notSynchronized
  have w_0 := hts (.fieldLink RX3 25 "GapLines$State" "lines" "I") (List.mem_cons_of_mem _ (List.mem_append_left _ (List.mem_of_getElem? (i := 0) rfl)))
  have hi3 : ∀ w ∈ u_ws RX3 TX3 15, w ∈ wsX3_placeAfterMoves := fun w h => (List.mem_cons_of_mem _ (List.mem_append_right _ h))
  have w_2 := hts (.fieldLink RX3 34 "GapLines$State" "gap" "I") (List.mem_cons_of_mem _ (List.mem_append_left _ (List.mem_of_getElem? (i := 1) rfl)))
  have w_3 := hts (.fieldLink RX3 31 "GapLines$State" "start" "I") (List.mem_cons_of_mem _ (List.mem_append_left _ (List.mem_of_getElem? (i := 2) rfl)))
  have hl := lv_entry ([.ref a0, .int p0, .int p1]) (n := 7) (Nat.le_of_ble_eq_true rfl)
  rw [lg_entry_eq]
  generalize (lg_sl ([.ref a0, .int p0, .int p1]) ++ List.replicate (7 - (lg_sl ([.ref a0, .int p0, .int p1])).length) Slot.unset).toArray = ls at hl ⊢
  have hl : lv_has ls 7 [(0, .ref a0), (1, .int p0), (2, .int p1)] := hl
  have hF := f_X3_placeAfterMoves_s r p0 p1
  refine lv_aload_n hx hb dX3_placeAfterMoves_0 rfl (lv_at hl 0 rfl) ?_
  refine lv_iload_n hx hb dX3_placeAfterMoves_1 rfl (lv_at hl 1 rfl) ?_
  refine xs_calli (va_runV (As := [.int p0]) (rest := []) ⟨hx, hb, hml, hown, hts⟩ (c_X3_hasLine l D y a0 a1 a2 s.heap.size r p0) (cwV 1 hts gX3_placeAfterMoves_X3_hasLine rfl rfl rfl hd_X3_hasLine ⟨Nat.le_of_ble_eq_true rfl, Nat.le_of_ble_eq_true rfl⟩) (gV (q := (RX3, TX3, 15)) hE hP hD 0 rfl rfl) rfl rfl hl.1 rfl (lv_room (Nat.le_of_ble_eq_true rfl)) dX3_placeAfterMoves_2 ⟨Nat.le_of_ble_eq_true rfl, Nat.le_of_ble_eq_true rfl⟩) (fun v2 h1 => ?_)
  have hF := hF.trans (gLet_e h1)
  refine lv_if_ne (tgt := 10) hx hb dX3_placeAfterMoves_5 (by decide) (fun c_3 => ?_) (fun c_3 => ?_)
  · have hF := hF.trans (if_neg c_3)
    refine lv_aload_n hx hb dX3_placeAfterMoves_10 rfl (lv_at hl 0 rfl) ?_
    refine va_get (D := D) (ci := 2) (v := .int (r 0)) (C := RX3) (T := TX3) (N := 15) hx hb hts hi3 hown hE.1 hP 0 rfl rfl 0 (by decide) w_0 (fun _ h9 => h9) rfl dX3_placeAfterMoves_11 ?_
    refine lv_aload_n hx hb dX3_placeAfterMoves_14 rfl (lv_at hl 0 rfl) ?_
    refine va_get (D := D) (ci := 2) (v := .int (r 3)) (C := RX3) (T := TX3) (N := 15) hx hb hts hi3 hown hE.1 hP 0 rfl rfl 3 (by decide) w_2 (fun _ h9 => h9) rfl dX3_placeAfterMoves_15 ?_
    refine lv_isub hx hb dX3_placeAfterMoves_18 ?_
    refine lv_iload_n hx hb dX3_placeAfterMoves_19 rfl (lv_at hl 2 rfl) ?_
    refine lv_iadd hx hb dX3_placeAfterMoves_20 ?_
    refine lv_istore_n (lv' := [(3, .int (((r 0) - (r 3)) + p1)), (0, .ref a0), (1, .int p0), (2, .int p1)]) hx hb dX3_placeAfterMoves_21 rfl hl (by decide) rfl (fun ls hl => ?_)
    refine lv_aload_n hx hb dX3_placeAfterMoves_22 rfl (lv_at hl 1 rfl) ?_
    refine va_get (D := D) (ci := 2) (v := .int (r 0)) (C := RX3) (T := TX3) (N := 15) hx hb hts hi3 hown hE.1 hP 0 rfl rfl 0 (by decide) w_0 (fun _ h9 => h9) rfl dX3_placeAfterMoves_23 ?_
    refine lv_iload_n hx hb dX3_placeAfterMoves_26 rfl (lv_at hl 0 rfl) ?_
    refine lv_aload_n hx hb dX3_placeAfterMoves_27 rfl (lv_at hl 1 rfl) ?_
    refine va_get (D := D) (ci := 2) (v := .int (r 0)) (C := RX3) (T := TX3) (N := 15) hx hb hts hi3 hown hE.1 hP 0 rfl rfl 0 (by decide) w_0 (fun _ h9 => h9) rfl dX3_placeAfterMoves_28 ?_
    refine lv_iconst (v := 1) hx hb dX3_placeAfterMoves_31 (by decide) ?_
    refine lv_iadd hx hb dX3_placeAfterMoves_32 ?_
    refine lv_irem hx hb dX3_placeAfterMoves_33 (ne_p1 ho.1 ho.2.1) ?_
    obtain ⟨v4, ev4⟩ : ∃ z : Int32, (((r 0) - (r 3)) + p1) - (((r 0) - (r 3)) + p1) / ((r 0) + 1) * ((r 0) + 1) = z := ⟨_, rfl⟩
    rw [ev4]
    have hF := hF.trans (gLet_e ev4)
    refine lv_isub hx hb dX3_placeAfterMoves_34 ?_
    refine lv_istore (lv' := [(4, .int ((r 0) - v4)), (3, .int (((r 0) - (r 3)) + p1)), (0, .ref a0), (1, .int p0), (2, .int p1)]) hx hb dX3_placeAfterMoves_35 hl (by decide) rfl (fun ls hl => ?_)
    refine lv_aload_n hx hb dX3_placeAfterMoves_37 rfl (lv_at hl 2 rfl) ?_
    refine va_get (D := D) (ci := 2) (v := .int (r 2)) (C := RX3) (T := TX3) (N := 15) hx hb hts hi3 hown hE.1 hP 0 rfl rfl 2 (by decide) w_3 (fun _ h9 => h9) rfl dX3_placeAfterMoves_38 ?_
    refine lv_iload_n hx hb dX3_placeAfterMoves_41 rfl (lv_at hl 1 rfl) ?_
    refine lv_aload_n hx hb dX3_placeAfterMoves_42 rfl (lv_at hl 2 rfl) ?_
    refine va_get (D := D) (ci := 2) (v := .int (r 0)) (C := RX3) (T := TX3) (N := 15) hx hb hts hi3 hown hE.1 hP 0 rfl rfl 0 (by decide) w_0 (fun _ h9 => h9) rfl dX3_placeAfterMoves_43 ?_
    refine lv_iconst (v := 1) hx hb dX3_placeAfterMoves_46 (by decide) ?_
    refine lv_iadd hx hb dX3_placeAfterMoves_47 ?_
    refine lv_idiv hx hb dX3_placeAfterMoves_48 (ne_p1 ho.1 ho.2.1) ?_
    refine lv_iadd hx hb dX3_placeAfterMoves_49 ?_
    refine lv_aload_n hx hb dX3_placeAfterMoves_50 rfl (lv_at hl 2 rfl) ?_
    refine va_get (D := D) (ci := 2) (v := .int (r 0)) (C := RX3) (T := TX3) (N := 15) hx hb hts hi3 hown hE.1 hP 0 rfl rfl 0 (by decide) w_0 (fun _ h9 => h9) rfl dX3_placeAfterMoves_51 ?_
    refine lv_irem hx hb dX3_placeAfterMoves_54 (hl_ne (by assumption) (by assumption)) ?_
    obtain ⟨v5, ev5⟩ : ∃ z : Int32, ((r 2) + ((((r 0) - (r 3)) + p1) / ((r 0) + 1))) - ((r 2) + ((((r 0) - (r 3)) + p1) / ((r 0) + 1))) / (r 0) * (r 0) = z := ⟨_, rfl⟩
    rw [ev5]
    have hF := hF.trans (gLet_e ev5)
    refine lv_istore (lv' := [(5, .int v5), (4, .int ((r 0) - v4)), (3, .int (((r 0) - (r 3)) + p1)), (0, .ref a0), (1, .int p0), (2, .int p1)]) hx hb dX3_placeAfterMoves_55 hl (by decide) rfl (fun ls hl => ?_)
    refine lv_aload_n hx hb dX3_placeAfterMoves_57 rfl (lv_at hl 3 rfl) ?_
    refine lv_iload_n hx hb dX3_placeAfterMoves_58 rfl (lv_at hl 4 rfl) ?_
    refine lv_iload hx hb dX3_placeAfterMoves_59 (lv_at hl 0 rfl) ?_
    refine xs_calli (va_runV (As := [.int p0, .int v5]) (rest := []) ⟨hx, hb, hml, hown, hts⟩ (c_X3_rankOf l D y a0 a1 a2 s.heap.size r p0 v5) (cwV 2 hts gX3_placeAfterMoves_X3_rankOf rfl rfl rfl hd_X3_rankOf ⟨Nat.le_of_ble_eq_true rfl, Nat.le_of_ble_eq_true rfl⟩) (gV (q := (RX3, TX3, 15)) hE hP hD 0 rfl rfl) rfl rfl hl.1 rfl (lv_room (Nat.le_of_ble_eq_true rfl)) dX3_placeAfterMoves_61 ⟨Nat.le_of_ble_eq_true rfl, Nat.le_of_ble_eq_true rfl⟩) (fun v7 h6 => ?_)
    have hF := hF.trans (gLet_e h6)
    refine lv_istore (lv' := [(6, .int v7), (5, .int v5), (4, .int ((r 0) - v4)), (3, .int (((r 0) - (r 3)) + p1)), (0, .ref a0), (1, .int p0), (2, .int p1)]) hx hb dX3_placeAfterMoves_64 hl (by decide) rfl (fun ls hl => ?_)
    refine lv_iload hx hb dX3_placeAfterMoves_66 (lv_at hl 0 rfl) ?_
    refine lv_iload hx hb dX3_placeAfterMoves_68 (lv_at hl 2 rfl) ?_
    refine lv_icmp_ge (tgt := 78) hx hb dX3_placeAfterMoves_70 (by decide) (fun c_8 => ?_) (fun c_8 => ?_)
    · have hF := hF.trans (if_pos c_8)
      refine lv_iload hx hb dX3_placeAfterMoves_78 (lv_at hl 0 rfl) ?_
      refine lv_iconst (v := 1) hx hb dX3_placeAfterMoves_80 (by decide) ?_
      refine lv_iadd hx hb dX3_placeAfterMoves_81 ?_
      exact W.iret (v := (v7 + 1)) hx hb hr (fun t ht hW => ⟨(v7 + 1), rfl, hF, ht⟩) (fun _ h => nomatch h) dX3_placeAfterMoves_82
    · have hF := hF.trans (if_neg c_8)
      refine lv_iload hx hb dX3_placeAfterMoves_73 (lv_at hl 0 rfl) ?_
      refine lv_goto (tgt := 82) hx hb dX3_placeAfterMoves_75 (by decide) ?_
      exact W.iret (v := v7) hx hb hr (fun t ht hW => ⟨v7, rfl, hF, ht⟩) (fun _ h => nomatch h) dX3_placeAfterMoves_82
  · have hF := hF.trans (if_pos c_3)
    refine lv_iconst (v := (-1)) hx hb dX3_placeAfterMoves_8 (by decide) ?_
    exact W.iret (v := (-1)) hx hb hr (fun t ht hW => ⟨(-1), rfl, hF, ht⟩) (fun _ h => nomatch h) dX3_placeAfterMoves_9
