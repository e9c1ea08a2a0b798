/-! THE LAW: what its walk stands on -/
theorem hd_L_cell : yL_cell.cls ≠ "java/lang/invoke/MethodHandle" ∧ yL_cell.cls ≠ "java/lang/invoke/VarHandle" ∧ (parseMethodDescriptor yL_cell.desc).map (fun d => d.parameters.length) = some 2 := by decide +kernel
theorem hd_L_refuses : yL_refuses.cls ≠ "java/lang/invoke/MethodHandle" ∧ yL_refuses.cls ≠ "java/lang/invoke/VarHandle" ∧ (parseMethodDescriptor yL_refuses.desc).map (fun d => d.parameters.length) = some 2 := by decide +kernel
theorem hd_L_holds : yL_holds.cls ≠ "java/lang/invoke/MethodHandle" ∧ yL_holds.cls ≠ "java/lang/invoke/VarHandle" ∧ (parseMethodDescriptor yL_holds.desc).map (fun d => d.parameters.length) = some 2 := by decide +kernel
theorem hd_L_act : yL_act.cls ≠ "java/lang/invoke/MethodHandle" ∧ yL_act.cls ≠ "java/lang/invoke/VarHandle" ∧ (parseMethodDescriptor yL_act.desc).map (fun d => d.parameters.length) = some 2 := by decide +kernel
theorem hd_L_alike : yL_alike.cls ≠ "java/lang/invoke/MethodHandle" ∧ yL_alike.cls ≠ "java/lang/invoke/VarHandle" ∧ (parseMethodDescriptor yL_alike.desc).map (fun d => d.parameters.length) = some 3 := by decide +kernel
theorem s_ab6g (S : oS) (q d : Int32) : fCall S 2 6 q d = (f_X3_greatestWear S.2.2.1, S) := by
  rw [fc_tryAbout, s_ab (by decide) (by decide)]
  unfold f_X3_number
  rw [if_neg (by decide)]
  rw [if_neg (by decide)]
  rw [if_neg (by decide)]
  rw [if_neg (by decide)]
  rw [if_neg (by decide)]
  rw [if_neg (by decide)]
  rw [if_pos rfl]
  rfl
theorem wE_ham {r : gR} {l : Int32} {EV m : Nat} (h : r 12 = nI EV) (hm : m < 100000) : wE r l (nI m) EV = f_X3_greatestWear (hmF l m r).2 := by
  have e : upd r 12 (nI EV) = r := by
    funext j
    by_cases c : j = 12
    · rw [c, upd_eq, h]
    · rw [upd_ne c]
  unfold wE f_X5_wearIfEvery
  simp only [gLet]
  rw [e, m_hm hm]
/-- a new object, before there is a store -/
def g00 : Nat → Nat × Nat × Nat := fun _ => (0, 0, 0)
def S00 : oS := (0, (fun _ => 0), iniR, iniR, 0, 0, (fun _ => none), (fun _ => none), (fun _ => 0))
theorem tl00 : Tl iniR := fun k hk => by
  unfold iniR
  rw [if_neg (by omega), if_neg (by omega)]
theorem okQ_no : okQ (fun _ => none) := fun i s h => nomatch h
theorem okT_no : okT 0 (fun _ => 0) := ⟨by decide, by decide, fun _ => (show chr 0 from ⟨by decide, by decide⟩)⟩
theorem ok00 : okS S00 := ⟨⟨by decide, by decide⟩, ⟨by decide, by decide, Or.inl rfl⟩, okT_no, okQ_no, okQ_no⟩
