/-! THE LAW'S CALLS: what each answers, and what it leaves -/
abbrev oS : Type := Int32 × (Nat → Int32) × gR × gR × Int32 × Int32 × (Nat → Option gR) × (Nat → Option gR) × (Nat → Int32)
def fCall (S : oS) (a b c d : Int32) : Int32 × oS := f_L_call S.1 S.2.1 S.2.2.1 S.2.2.2.1 S.2.2.2.2.1 S.2.2.2.2.2.1 S.2.2.2.2.2.2.1 S.2.2.2.2.2.2.2.1 S.2.2.2.2.2.2.2.2 a b c d
theorem fc_tryAppend (S : oS) (p q d : Int32) : fCall S 0 p q d = ((f_L_tryAppend S.1 S.2.1 p).1, (f_L_tryAppend S.1 S.2.1 p).2.1, (f_L_tryAppend S.1 S.2.1 p).2.2, S.2.2.1, S.2.2.2.1, S.2.2.2.2.1, S.2.2.2.2.2.1, S.2.2.2.2.2.2.1, S.2.2.2.2.2.2.2.1, S.2.2.2.2.2.2.2.2) := by
  unfold fCall
  rw [f_L_call_s]
  rw [if_pos rfl]
  rfl
theorem fc_tryLoad (S : oS) (p q d : Int32) : fCall S 1 p q d = ((f_L_tryLoad S.1 S.2.1 S.2.2.1 S.2.2.2.2.1 S.2.2.2.2.2.1 S.2.2.2.2.2.2.2.2).1, S.1, S.2.1, (f_L_tryLoad S.1 S.2.1 S.2.2.1 S.2.2.2.2.1 S.2.2.2.2.2.1 S.2.2.2.2.2.2.2.2).2.1, S.2.2.2.1, (f_L_tryLoad S.1 S.2.1 S.2.2.1 S.2.2.2.2.1 S.2.2.2.2.2.1 S.2.2.2.2.2.2.2.2).2.2.1, S.2.2.2.2.2.1, S.2.2.2.2.2.2.1, S.2.2.2.2.2.2.2.1, (f_L_tryLoad S.1 S.2.1 S.2.2.1 S.2.2.2.2.1 S.2.2.2.2.2.1 S.2.2.2.2.2.2.2.2).2.2.2) := by
  unfold fCall
  rw [f_L_call_s]
  rw [if_neg (by decide)]
  rw [if_pos rfl]
  rfl
theorem fc_tryAbout (S : oS) (p q d : Int32) : fCall S 2 p q d = (f_L_tryAbout S.2.2.1 p, S) := by
  unfold fCall
  rw [f_L_call_s]
  rw [if_neg (by decide)]
  rw [if_neg (by decide)]
  rw [if_pos rfl]
  rfl
theorem fc_tryRead (S : oS) (p q d : Int32) : fCall S 3 p q d = (f_L_tryRead S.2.2.1 p, S) := by
  unfold fCall
  rw [f_L_call_s]
  rw [if_neg (by decide)]
  rw [if_neg (by decide)]
  rw [if_neg (by decide)]
  rw [if_pos rfl]
  rfl
theorem fc_tryPlace (S : oS) (p q d : Int32) : fCall S 4 p q d = (f_L_tryPlace S.2.2.1 p, S) := by
  unfold fCall
  rw [f_L_call_s]
  rw [if_neg (by decide)]
  rw [if_neg (by decide)]
  rw [if_neg (by decide)]
  rw [if_neg (by decide)]
  rw [if_pos rfl]
  rfl
theorem fc_tryLine (S : oS) (p q d : Int32) : fCall S 5 p q d = (f_L_tryLine S.2.2.1 p, S) := by
  unfold fCall
  rw [f_L_call_s]
  rw [if_neg (by decide)]
  rw [if_neg (by decide)]
  rw [if_neg (by decide)]
  rw [if_neg (by decide)]
  rw [if_neg (by decide)]
  rw [if_pos rfl]
  rfl
theorem fc_tryWear (S : oS) (p q d : Int32) : fCall S 6 p q d = (f_L_tryWear S.2.2.1 p, S) := by
  unfold fCall
  rw [f_L_call_s]
  rw [if_neg (by decide)]
  rw [if_neg (by decide)]
  rw [if_neg (by decide)]
  rw [if_neg (by decide)]
  rw [if_neg (by decide)]
  rw [if_neg (by decide)]
  rw [if_pos rfl]
  rfl
theorem fc_trySetting (S : oS) (p q d : Int32) : fCall S 7 p q d = (f_L_trySetting S.2.2.1 p, S) := by
  unfold fCall
  rw [f_L_call_s]
  rw [if_neg (by decide)]
  rw [if_neg (by decide)]
  rw [if_neg (by decide)]
  rw [if_neg (by decide)]
  rw [if_neg (by decide)]
  rw [if_neg (by decide)]
  rw [if_neg (by decide)]
  rw [if_pos rfl]
  rfl
theorem fc_tryMake (S : oS) (p q d : Int32) : fCall S 8 p q d = ((f_L_tryMake S.1 S.2.1 S.2.2.1 S.2.2.2.1 S.2.2.2.2.1 S.2.2.2.2.2.1 S.2.2.2.2.2.2.1 S.2.2.2.2.2.2.2.1 S.2.2.2.2.2.2.2.2 p q d).1, S.1, S.2.1, (f_L_tryMake S.1 S.2.1 S.2.2.1 S.2.2.2.1 S.2.2.2.2.1 S.2.2.2.2.2.1 S.2.2.2.2.2.2.1 S.2.2.2.2.2.2.2.1 S.2.2.2.2.2.2.2.2 p q d).2.1, S.2.2.2.1, (f_L_tryMake S.1 S.2.1 S.2.2.1 S.2.2.2.1 S.2.2.2.2.1 S.2.2.2.2.2.1 S.2.2.2.2.2.2.1 S.2.2.2.2.2.2.2.1 S.2.2.2.2.2.2.2.2 p q d).2.2.2.1, (f_L_tryMake S.1 S.2.1 S.2.2.1 S.2.2.2.1 S.2.2.2.2.1 S.2.2.2.2.2.1 S.2.2.2.2.2.2.1 S.2.2.2.2.2.2.2.1 S.2.2.2.2.2.2.2.2 p q d).2.2.2.2, (f_L_tryMake S.1 S.2.1 S.2.2.1 S.2.2.2.1 S.2.2.2.2.1 S.2.2.2.2.2.1 S.2.2.2.2.2.2.1 S.2.2.2.2.2.2.2.1 S.2.2.2.2.2.2.2.2 p q d).2.2.1, S.2.2.2.2.2.2.2.1, S.2.2.2.2.2.2.2.2) := by
  unfold fCall
  rw [f_L_call_s]
  rw [if_neg (by decide)]
  rw [if_neg (by decide)]
  rw [if_neg (by decide)]
  rw [if_neg (by decide)]
  rw [if_neg (by decide)]
  rw [if_neg (by decide)]
  rw [if_neg (by decide)]
  rw [if_neg (by decide)]
  rw [if_pos rfl]
  rfl
theorem fc_tryWrite (S : oS) (p q d : Int32) : fCall S 9 p q d = ((f_L_tryWrite S.1 S.2.1 S.2.2.1 S.2.2.2.1 S.2.2.2.2.1 S.2.2.2.2.2.1 S.2.2.2.2.2.2.1 S.2.2.2.2.2.2.2.1 S.2.2.2.2.2.2.2.2 p q).1, S.1, S.2.1, (f_L_tryWrite S.1 S.2.1 S.2.2.1 S.2.2.2.1 S.2.2.2.2.1 S.2.2.2.2.2.1 S.2.2.2.2.2.2.1 S.2.2.2.2.2.2.2.1 S.2.2.2.2.2.2.2.2 p q).2.1, S.2.2.2.1, (f_L_tryWrite S.1 S.2.1 S.2.2.1 S.2.2.2.1 S.2.2.2.2.1 S.2.2.2.2.2.1 S.2.2.2.2.2.2.1 S.2.2.2.2.2.2.2.1 S.2.2.2.2.2.2.2.2 p q).2.2.2.1, (f_L_tryWrite S.1 S.2.1 S.2.2.1 S.2.2.2.1 S.2.2.2.2.1 S.2.2.2.2.2.1 S.2.2.2.2.2.2.1 S.2.2.2.2.2.2.2.1 S.2.2.2.2.2.2.2.2 p q).2.2.2.2, (f_L_tryWrite S.1 S.2.1 S.2.2.1 S.2.2.2.1 S.2.2.2.2.1 S.2.2.2.2.2.1 S.2.2.2.2.2.2.1 S.2.2.2.2.2.2.2.1 S.2.2.2.2.2.2.2.2 p q).2.2.1, S.2.2.2.2.2.2.2.1, S.2.2.2.2.2.2.2.2) := by
  unfold fCall
  rw [f_L_call_s]
  rw [if_neg (by decide)]
  rw [if_neg (by decide)]
  rw [if_neg (by decide)]
  rw [if_neg (by decide)]
  rw [if_neg (by decide)]
  rw [if_neg (by decide)]
  rw [if_neg (by decide)]
  rw [if_neg (by decide)]
  rw [if_neg (by decide)]
  rw [if_pos rfl]
  rfl
theorem fc_tryHammer (S : oS) (p q d : Int32) : fCall S 10 p q d = ((f_L_tryHammer S.1 S.2.1 S.2.2.1 S.2.2.2.1 S.2.2.2.2.1 S.2.2.2.2.2.1 S.2.2.2.2.2.2.1 S.2.2.2.2.2.2.2.1 S.2.2.2.2.2.2.2.2 p q).1, S.1, S.2.1, (f_L_tryHammer S.1 S.2.1 S.2.2.1 S.2.2.2.1 S.2.2.2.2.1 S.2.2.2.2.2.1 S.2.2.2.2.2.2.1 S.2.2.2.2.2.2.2.1 S.2.2.2.2.2.2.2.2 p q).2.1, S.2.2.2.1, (f_L_tryHammer S.1 S.2.1 S.2.2.1 S.2.2.2.1 S.2.2.2.2.1 S.2.2.2.2.2.1 S.2.2.2.2.2.2.1 S.2.2.2.2.2.2.2.1 S.2.2.2.2.2.2.2.2 p q).2.2.2.1, (f_L_tryHammer S.1 S.2.1 S.2.2.1 S.2.2.2.1 S.2.2.2.2.1 S.2.2.2.2.2.1 S.2.2.2.2.2.2.1 S.2.2.2.2.2.2.2.1 S.2.2.2.2.2.2.2.2 p q).2.2.2.2, (f_L_tryHammer S.1 S.2.1 S.2.2.1 S.2.2.2.1 S.2.2.2.2.1 S.2.2.2.2.2.1 S.2.2.2.2.2.2.1 S.2.2.2.2.2.2.2.1 S.2.2.2.2.2.2.2.2 p q).2.2.1, S.2.2.2.2.2.2.2.1, S.2.2.2.2.2.2.2.2) := by
  unfold fCall
  rw [f_L_call_s]
  rw [if_neg (by decide)]
  rw [if_neg (by decide)]
  rw [if_neg (by decide)]
  rw [if_neg (by decide)]
  rw [if_neg (by decide)]
  rw [if_neg (by decide)]
  rw [if_neg (by decide)]
  rw [if_neg (by decide)]
  rw [if_neg (by decide)]
  rw [if_neg (by decide)]
  rw [if_pos rfl]
  rfl
theorem fc_tryAll (S : oS) (p q d : Int32) : fCall S 11 p q d = ((f_L_tryAll S.1 S.2.1 S.2.2.1 S.2.2.2.1 S.2.2.2.2.1 S.2.2.2.2.2.1 S.2.2.2.2.2.2.1 S.2.2.2.2.2.2.2.1 S.2.2.2.2.2.2.2.2 p).1, S.1, S.2.1, (f_L_tryAll S.1 S.2.1 S.2.2.1 S.2.2.2.1 S.2.2.2.2.1 S.2.2.2.2.2.1 S.2.2.2.2.2.2.1 S.2.2.2.2.2.2.2.1 S.2.2.2.2.2.2.2.2 p).2.1, S.2.2.2.1, (f_L_tryAll S.1 S.2.1 S.2.2.1 S.2.2.2.1 S.2.2.2.2.1 S.2.2.2.2.2.1 S.2.2.2.2.2.2.1 S.2.2.2.2.2.2.2.1 S.2.2.2.2.2.2.2.2 p).2.2.2.1, (f_L_tryAll S.1 S.2.1 S.2.2.1 S.2.2.2.1 S.2.2.2.2.1 S.2.2.2.2.2.1 S.2.2.2.2.2.2.1 S.2.2.2.2.2.2.2.1 S.2.2.2.2.2.2.2.2 p).2.2.2.2, (f_L_tryAll S.1 S.2.1 S.2.2.1 S.2.2.2.1 S.2.2.2.2.1 S.2.2.2.2.2.1 S.2.2.2.2.2.2.1 S.2.2.2.2.2.2.2.1 S.2.2.2.2.2.2.2.2 p).2.2.1, S.2.2.2.2.2.2.2.1, S.2.2.2.2.2.2.2.2) := by
  unfold fCall
  rw [f_L_call_s]
  rw [if_neg (by decide)]
  rw [if_neg (by decide)]
  rw [if_neg (by decide)]
  rw [if_neg (by decide)]
  rw [if_neg (by decide)]
  rw [if_neg (by decide)]
  rw [if_neg (by decide)]
  rw [if_neg (by decide)]
  rw [if_neg (by decide)]
  rw [if_neg (by decide)]
  rw [if_neg (by decide)]
  rw [if_pos rfl]
  rfl
theorem fc_tryLay (S : oS) (p q d : Int32) : fCall S 12 p q d = ((f_L_tryLay S.1 S.2.1 S.2.2.1 S.2.2.2.1 S.2.2.2.2.1 S.2.2.2.2.2.1 S.2.2.2.2.2.2.1 S.2.2.2.2.2.2.2.1 S.2.2.2.2.2.2.2.2 p q).1, S.1, S.2.1, (f_L_tryLay S.1 S.2.1 S.2.2.1 S.2.2.2.1 S.2.2.2.2.1 S.2.2.2.2.2.1 S.2.2.2.2.2.2.1 S.2.2.2.2.2.2.2.1 S.2.2.2.2.2.2.2.2 p q).2.1, S.2.2.2.1, (f_L_tryLay S.1 S.2.1 S.2.2.1 S.2.2.2.1 S.2.2.2.2.1 S.2.2.2.2.2.1 S.2.2.2.2.2.2.1 S.2.2.2.2.2.2.2.1 S.2.2.2.2.2.2.2.2 p q).2.2.2.1, (f_L_tryLay S.1 S.2.1 S.2.2.1 S.2.2.2.1 S.2.2.2.2.1 S.2.2.2.2.2.1 S.2.2.2.2.2.2.1 S.2.2.2.2.2.2.2.1 S.2.2.2.2.2.2.2.2 p q).2.2.2.2, (f_L_tryLay S.1 S.2.1 S.2.2.1 S.2.2.2.1 S.2.2.2.2.1 S.2.2.2.2.2.1 S.2.2.2.2.2.2.1 S.2.2.2.2.2.2.2.1 S.2.2.2.2.2.2.2.2 p q).2.2.1, S.2.2.2.2.2.2.2.1, S.2.2.2.2.2.2.2.2) := by
  unfold fCall
  rw [f_L_call_s]
  rw [if_neg (by decide)]
  rw [if_neg (by decide)]
  rw [if_neg (by decide)]
  rw [if_neg (by decide)]
  rw [if_neg (by decide)]
  rw [if_neg (by decide)]
  rw [if_neg (by decide)]
  rw [if_neg (by decide)]
  rw [if_neg (by decide)]
  rw [if_neg (by decide)]
  rw [if_neg (by decide)]
  rw [if_neg (by decide)]
  rw [if_pos rfl]
  rfl
theorem fc_tryUndo (S : oS) (p q d : Int32) : fCall S 13 p q d = ((f_L_tryUndo S.1 S.2.1 S.2.2.1 S.2.2.2.1 S.2.2.2.2.1 S.2.2.2.2.2.1 S.2.2.2.2.2.2.1 S.2.2.2.2.2.2.2.1 S.2.2.2.2.2.2.2.2).1, S.1, S.2.1, (f_L_tryUndo S.1 S.2.1 S.2.2.1 S.2.2.2.1 S.2.2.2.2.1 S.2.2.2.2.2.1 S.2.2.2.2.2.2.1 S.2.2.2.2.2.2.2.1 S.2.2.2.2.2.2.2.2).2.1, S.2.2.2.1, (f_L_tryUndo S.1 S.2.1 S.2.2.1 S.2.2.2.1 S.2.2.2.2.1 S.2.2.2.2.2.1 S.2.2.2.2.2.2.1 S.2.2.2.2.2.2.2.1 S.2.2.2.2.2.2.2.2).2.2.1, (f_L_tryUndo S.1 S.2.1 S.2.2.1 S.2.2.2.1 S.2.2.2.2.1 S.2.2.2.2.2.1 S.2.2.2.2.2.2.1 S.2.2.2.2.2.2.2.1 S.2.2.2.2.2.2.2.2).2.2.2, S.2.2.2.2.2.2.1, S.2.2.2.2.2.2.2.1, S.2.2.2.2.2.2.2.2) := by
  unfold fCall
  rw [f_L_call_s]
  rw [if_neg (by decide)]
  rw [if_neg (by decide)]
  rw [if_neg (by decide)]
  rw [if_neg (by decide)]
  rw [if_neg (by decide)]
  rw [if_neg (by decide)]
  rw [if_neg (by decide)]
  rw [if_neg (by decide)]
  rw [if_neg (by decide)]
  rw [if_neg (by decide)]
  rw [if_neg (by decide)]
  rw [if_neg (by decide)]
  rw [if_neg (by decide)]
  rw [if_pos rfl]
  rfl
theorem fc_tryLife (S : oS) (p q d : Int32) : fCall S 14 p q d = ((f_L_tryLife S.2.2.1 S.2.2.2.1 p).1, S.1, S.2.1, S.2.2.1, (f_L_tryLife S.2.2.1 S.2.2.2.1 p).2, S.2.2.2.2.1, S.2.2.2.2.2.1, S.2.2.2.2.2.2.1, S.2.2.2.2.2.2.2.1, S.2.2.2.2.2.2.2.2) := by
  unfold fCall
  rw [f_L_call_s]
  rw [if_neg (by decide)]
  rw [if_neg (by decide)]
  rw [if_neg (by decide)]
  rw [if_neg (by decide)]
  rw [if_neg (by decide)]
  rw [if_neg (by decide)]
  rw [if_neg (by decide)]
  rw [if_neg (by decide)]
  rw [if_neg (by decide)]
  rw [if_neg (by decide)]
  rw [if_neg (by decide)]
  rw [if_neg (by decide)]
  rw [if_neg (by decide)]
  rw [if_neg (by decide)]
  rw [if_pos rfl]
  rfl
theorem fc_tryLong (S : oS) (p q d : Int32) : fCall S 15 p q d = ((f_L_tryLong S.2.2.1 S.2.2.2.1).1, S.1, S.2.1, S.2.2.1, (f_L_tryLong S.2.2.1 S.2.2.2.1).2, S.2.2.2.2.1, S.2.2.2.2.2.1, S.2.2.2.2.2.2.1, S.2.2.2.2.2.2.2.1, S.2.2.2.2.2.2.2.2) := by
  unfold fCall
  rw [f_L_call_s]
  rw [if_neg (by decide)]
  rw [if_neg (by decide)]
  rw [if_neg (by decide)]
  rw [if_neg (by decide)]
  rw [if_neg (by decide)]
  rw [if_neg (by decide)]
  rw [if_neg (by decide)]
  rw [if_neg (by decide)]
  rw [if_neg (by decide)]
  rw [if_neg (by decide)]
  rw [if_neg (by decide)]
  rw [if_neg (by decide)]
  rw [if_neg (by decide)]
  rw [if_neg (by decide)]
  rw [if_neg (by decide)]
  rw [if_pos rfl]
  rfl
theorem fc_tryEvery (S : oS) (p q d : Int32) : fCall S 16 p q d = ((f_L_tryEvery S.2.2.1 S.2.2.2.1 p q d).1, S.1, S.2.1, S.2.2.1, (f_L_tryEvery S.2.2.1 S.2.2.2.1 p q d).2, S.2.2.2.2.1, S.2.2.2.2.2.1, S.2.2.2.2.2.2.1, S.2.2.2.2.2.2.2.1, S.2.2.2.2.2.2.2.2) := by
  unfold fCall
  rw [f_L_call_s]
  rw [if_neg (by decide)]
  rw [if_neg (by decide)]
  rw [if_neg (by decide)]
  rw [if_neg (by decide)]
  rw [if_neg (by decide)]
  rw [if_neg (by decide)]
  rw [if_neg (by decide)]
  rw [if_neg (by decide)]
  rw [if_neg (by decide)]
  rw [if_neg (by decide)]
  rw [if_neg (by decide)]
  rw [if_neg (by decide)]
  rw [if_neg (by decide)]
  rw [if_neg (by decide)]
  rw [if_neg (by decide)]
  rw [if_neg (by decide)]
  rw [if_pos rfl]
  rfl
theorem fc_tryBest (S : oS) (p q d : Int32) : fCall S 17 p q d = ((f_L_tryBest S.2.2.1 S.2.2.2.1 p q).1, S.1, S.2.1, S.2.2.1, (f_L_tryBest S.2.2.1 S.2.2.2.1 p q).2, S.2.2.2.2.1, S.2.2.2.2.2.1, S.2.2.2.2.2.2.1, S.2.2.2.2.2.2.2.1, S.2.2.2.2.2.2.2.2) := by
  unfold fCall
  rw [f_L_call_s]
  rw [if_neg (by decide)]
  rw [if_neg (by decide)]
  rw [if_neg (by decide)]
  rw [if_neg (by decide)]
  rw [if_neg (by decide)]
  rw [if_neg (by decide)]
  rw [if_neg (by decide)]
  rw [if_neg (by decide)]
  rw [if_neg (by decide)]
  rw [if_neg (by decide)]
  rw [if_neg (by decide)]
  rw [if_neg (by decide)]
  rw [if_neg (by decide)]
  rw [if_neg (by decide)]
  rw [if_neg (by decide)]
  rw [if_neg (by decide)]
  rw [if_neg (by decide)]
  rw [if_pos rfl]
  rfl
theorem fc_tryMoves (S : oS) (p q d : Int32) : fCall S 18 p q d = (f_L_tryMoves S.2.2.1 p, S) := by
  unfold fCall
  rw [f_L_call_s]
  rw [if_neg (by decide)]
  rw [if_neg (by decide)]
  rw [if_neg (by decide)]
  rw [if_neg (by decide)]
  rw [if_neg (by decide)]
  rw [if_neg (by decide)]
  rw [if_neg (by decide)]
  rw [if_neg (by decide)]
  rw [if_neg (by decide)]
  rw [if_neg (by decide)]
  rw [if_neg (by decide)]
  rw [if_neg (by decide)]
  rw [if_neg (by decide)]
  rw [if_neg (by decide)]
  rw [if_neg (by decide)]
  rw [if_neg (by decide)]
  rw [if_neg (by decide)]
  rw [if_neg (by decide)]
  rw [if_pos rfl]
  rfl
theorem fc_tryBehind (S : oS) (p q d : Int32) : fCall S 19 p q d = (f_L_tryBehind S.2.2.1 p q, S) := by
  unfold fCall
  rw [f_L_call_s]
  rw [if_neg (by decide)]
  rw [if_neg (by decide)]
  rw [if_neg (by decide)]
  rw [if_neg (by decide)]
  rw [if_neg (by decide)]
  rw [if_neg (by decide)]
  rw [if_neg (by decide)]
  rw [if_neg (by decide)]
  rw [if_neg (by decide)]
  rw [if_neg (by decide)]
  rw [if_neg (by decide)]
  rw [if_neg (by decide)]
  rw [if_neg (by decide)]
  rw [if_neg (by decide)]
  rw [if_neg (by decide)]
  rw [if_neg (by decide)]
  rw [if_neg (by decide)]
  rw [if_neg (by decide)]
  rw [if_neg (by decide)]
  rw [if_pos rfl]
  rfl
theorem fc_tryKeep (S : oS) (p q d : Int32) : fCall S 20 p q d = ((f_L_tryKeep S.1 S.2.1 S.2.2.1 S.2.2.2.1 S.2.2.2.2.1 S.2.2.2.2.2.1 S.2.2.2.2.2.2.1 S.2.2.2.2.2.2.2.1 S.2.2.2.2.2.2.2.2 p).1, S.1, S.2.1, S.2.2.1, S.2.2.2.1, S.2.2.2.2.1, S.2.2.2.2.2.1, S.2.2.2.2.2.2.1, (f_L_tryKeep S.1 S.2.1 S.2.2.1 S.2.2.2.1 S.2.2.2.2.1 S.2.2.2.2.2.1 S.2.2.2.2.2.2.1 S.2.2.2.2.2.2.2.1 S.2.2.2.2.2.2.2.2 p).2.1, (f_L_tryKeep S.1 S.2.1 S.2.2.1 S.2.2.2.1 S.2.2.2.2.1 S.2.2.2.2.2.1 S.2.2.2.2.2.2.1 S.2.2.2.2.2.2.2.1 S.2.2.2.2.2.2.2.2 p).2.2) := by
  unfold fCall
  rw [f_L_call_s]
  rw [if_neg (by decide)]
  rw [if_neg (by decide)]
  rw [if_neg (by decide)]
  rw [if_neg (by decide)]
  rw [if_neg (by decide)]
  rw [if_neg (by decide)]
  rw [if_neg (by decide)]
  rw [if_neg (by decide)]
  rw [if_neg (by decide)]
  rw [if_neg (by decide)]
  rw [if_neg (by decide)]
  rw [if_neg (by decide)]
  rw [if_neg (by decide)]
  rw [if_neg (by decide)]
  rw [if_neg (by decide)]
  rw [if_neg (by decide)]
  rw [if_neg (by decide)]
  rw [if_neg (by decide)]
  rw [if_neg (by decide)]
  rw [if_neg (by decide)]
  rw [if_pos rfl]
  rfl
theorem fc_tryBack (S : oS) (p q d : Int32) : fCall S 21 p q d = ((f_L_tryBack S.1 S.2.1 S.2.2.1 S.2.2.2.1 S.2.2.2.2.1 S.2.2.2.2.2.1 S.2.2.2.2.2.2.1 S.2.2.2.2.2.2.2.1 S.2.2.2.2.2.2.2.2 p).1, S.1, S.2.1, (f_L_tryBack S.1 S.2.1 S.2.2.1 S.2.2.2.1 S.2.2.2.2.1 S.2.2.2.2.2.1 S.2.2.2.2.2.2.1 S.2.2.2.2.2.2.2.1 S.2.2.2.2.2.2.2.2 p).2.1, S.2.2.2.1, (f_L_tryBack S.1 S.2.1 S.2.2.1 S.2.2.2.1 S.2.2.2.2.1 S.2.2.2.2.2.1 S.2.2.2.2.2.2.1 S.2.2.2.2.2.2.2.1 S.2.2.2.2.2.2.2.2 p).2.2, S.2.2.2.2.2.1, S.2.2.2.2.2.2.1, S.2.2.2.2.2.2.2.1, S.2.2.2.2.2.2.2.2) := by
  unfold fCall
  rw [f_L_call_s]
  rw [if_neg (by decide)]
  rw [if_neg (by decide)]
  rw [if_neg (by decide)]
  rw [if_neg (by decide)]
  rw [if_neg (by decide)]
  rw [if_neg (by decide)]
  rw [if_neg (by decide)]
  rw [if_neg (by decide)]
  rw [if_neg (by decide)]
  rw [if_neg (by decide)]
  rw [if_neg (by decide)]
  rw [if_neg (by decide)]
  rw [if_neg (by decide)]
  rw [if_neg (by decide)]
  rw [if_neg (by decide)]
  rw [if_neg (by decide)]
  rw [if_neg (by decide)]
  rw [if_neg (by decide)]
  rw [if_neg (by decide)]
  rw [if_neg (by decide)]
  rw [if_neg (by decide)]
  rfl
theorem q_l0 {r : gR} {p : Int32} (h : ¬ okL r p) : f_X5_requireLine r p = 3 := by
  have e : f_X3_hasLine r p = 0 := Classical.byContradiction fun q => h (m_has.mp q)
  unfold f_X5_requireLine; rw [gLet_e e, if_pos rfl]
theorem q_l1 {r : gR} {p : Int32} (h : okL r p) : f_X5_requireLine r p = 0 := by
  unfold f_X5_requireLine; rw [gLet_e (b := f_X3_hasLine r p) rfl, if_neg (m_has.mpr h)]
theorem hp_0 {r : gR} {p : Int32} (h : p < 0 ∨ r 0 < p) : f_X3_hasPlace r p = 0 := by
  unfold f_X3_hasPlace
  by_cases c : r 0 ≤ 0
  · rw [if_pos c]
  · rw [if_neg c]
    by_cases d : p < 0
    · rw [if_pos d]
    · rw [if_neg d, if_pos (h.resolve_left d)]
theorem hp_1 {r : gR} {p : Int32} (h0 : ¬ r 0 ≤ 0) (h1 : ¬ p < 0) (h2 : ¬ r 0 < p) : f_X3_hasPlace r p = 1 := by
  unfold f_X3_hasPlace; rw [if_neg h0, if_neg h1, if_neg h2]
theorem q_p0 {r : gR} {p : Int32} (h : p < 0 ∨ r 0 < p) : f_X5_requirePlace r p = 3 := by
  unfold f_X5_requirePlace; rw [gLet_e (hp_0 h), if_pos rfl]
theorem q_p1 {r : gR} {p : Int32} (h0 : ¬ r 0 ≤ 0) (h1 : ¬ p < 0) (h2 : ¬ r 0 < p) : f_X5_requirePlace r p = 0 := by
  unfold f_X5_requirePlace; rw [gLet_e (hp_1 h0 h1 h2), if_neg (by decide)]
theorem q_h0 {p : Int32} (h : p < 1 ∨ 500 < p) : f_X5_requireHammered p = 1 := by
  have e : f_X5_isHammered p = 0 := by
    unfold f_X5_isHammered
    by_cases c : p < 1
    · rw [if_pos c]
    · rw [if_neg c, if_pos (h.resolve_left c)]
  unfold f_X5_requireHammered; rw [gLet_e e, if_pos rfl]
theorem q_h1 {p : Int32} (h0 : ¬ p < 1) (h1 : ¬ 500 < p) : f_X5_requireHammered p = 0 := by
  have e : f_X5_isHammered p = 1 := by
    unfold f_X5_isHammered; rw [if_neg h0, if_neg h1]
  unfold f_X5_requireHammered; rw [gLet_e e, if_neg (by decide)]
theorem q_v0 {p : Int32} (h : p < 0 ∨ 999 < p) : f_X5_isValue p = 0 := by
  unfold f_X5_isValue
  by_cases c : p < 0
  · rw [if_pos c]
  · rw [if_neg c, if_pos (h.resolve_left c)]
theorem q_v1 {p : Int32} (h0 : ¬ p < 0) (h1 : ¬ 999 < p) : f_X5_isValue p = 1 := by
  unfold f_X5_isValue; rw [if_neg h0, if_neg h1]
theorem q_s0 {p : Int32} (h : p < 0 ∨ 2 ≤ p) : f_X5_requireSlot p = 3 := by
  have e : f_X2_has p = 0 := by
    unfold f_X2_has
    by_cases c : p < 0
    · rw [if_pos c]
    · rw [if_neg c, if_pos (h.resolve_left c)]
  unfold f_X5_requireSlot; rw [gLet_e e, if_pos rfl]
theorem hs_1 {p : Int32} (h0 : ¬ p < 0) (h1 : ¬ 2 ≤ p) : f_X2_has p = 1 := by
  unfold f_X2_has; rw [if_neg h0, if_neg h1]
theorem q_s1 {p : Int32} (h0 : ¬ p < 0) (h1 : ¬ 2 ≤ p) : f_X5_requireSlot p = 0 := by
  unfold f_X5_requireSlot; rw [gLet_e (hs_1 h0 h1), if_neg (by decide)]
theorem q_e1 {r : gR} (h : ¬ r 0 ≤ 0) : f_X3_exists r = 1 := by
  unfold f_X3_exists; rw [if_neg h]
theorem q_st {r : gR} (h : ¬ r 0 ≤ 0) : f_X5_requireStore r = 0 := by
  unfold f_X5_requireStore; rw [gLet_e (q_e1 h), if_neg (by decide)]
/-! what is refused -/
theorem t_append (S : oS) {p : Int32} (q d : Int32) (h : p < 0 ∨ 255 < p) : fCall S 0 p q d = (-9999002, S) := by
  have e : f_X5_append S.1 S.2.1 p = (1, 0, S.1, S.2.1) := by
    unfold f_X5_append
    by_cases c : p < 0
    · rw [if_pos c]
    · rw [if_neg c, if_neg (Int32.not_le.mpr (h.resolve_left c))]
  have e2 : f_L_tryAppend S.1 S.2.1 p = (-9999002, S.1, S.2.1) := by unfold f_L_tryAppend; rw [gLet_e e]; rfl
  rw [fc_tryAppend, e2]
theorem t_about (S : oS) {p : Int32} (q d : Int32) (h : p < 0 ∨ 11 < p) : fCall S 2 p q d = (-9999002, S) := by
  have e : f_X5_about S.2.2.1 p = (1, 0) := by
    unfold f_X5_about
    by_cases c : p < 0
    · rw [if_pos c]
    · rw [if_neg c, if_neg (Int32.not_le.mpr (h.resolve_left c))]
  have e2 : f_L_tryAbout S.2.2.1 p = -9999002 := by unfold f_L_tryAbout; rw [gLet_e e]; rfl
  rw [fc_tryAbout, e2]
theorem t_read (S : oS) {p : Int32} (q d : Int32) (h : ¬ okL S.2.2.1 p) : fCall S 3 p q d = (-9999001, S) := by
  have e : f_X5_read S.2.2.1 p = (3, 0) := by unfold f_X5_read; rw [gLet_e (q_l0 h)]; rfl
  have e2 : f_L_tryRead S.2.2.1 p = -9999001 := by unfold f_L_tryRead; rw [gLet_e e]; rfl
  rw [fc_tryRead, e2]
theorem t_place (S : oS) {p : Int32} (q d : Int32) (h : ¬ okL S.2.2.1 p) : fCall S 4 p q d = (-9999001, S) := by
  have e : f_X5_place S.2.2.1 p = (3, 0) := by unfold f_X5_place; rw [gLet_e (q_l0 h)]; rfl
  have e2 : f_L_tryPlace S.2.2.1 p = -9999001 := by unfold f_L_tryPlace; rw [gLet_e e]; rfl
  rw [fc_tryPlace, e2]
theorem t_line (S : oS) {p : Int32} (q d : Int32) (h : p < 0 ∨ S.2.2.1 0 < p) : fCall S 5 p q d = (-9999001, S) := by
  have e : f_X5_line S.2.2.1 p = (3, 0) := by unfold f_X5_line; rw [gLet_e (q_p0 h)]; rfl
  have e2 : f_L_tryLine S.2.2.1 p = -9999001 := by unfold f_L_tryLine; rw [gLet_e e]; rfl
  rw [fc_tryLine, e2]
theorem t_wear (S : oS) {p : Int32} (q d : Int32) (h : p < 0 ∨ S.2.2.1 0 < p) : fCall S 6 p q d = (-9999001, S) := by
  have e : f_X5_wear S.2.2.1 p = (3, 0) := by unfold f_X5_wear; rw [gLet_e (q_p0 h)]; rfl
  have e2 : f_L_tryWear S.2.2.1 p = -9999001 := by unfold f_L_tryWear; rw [gLet_e e]; rfl
  rw [fc_tryWear, e2]
theorem t_setting (S : oS) {p : Int32} (q d : Int32) (h0 : ¬ p = 0) (h1 : ¬ p = 1) : fCall S 7 p q d = (-9999002, S) := by
  have e1 : f_X5_requireSetting p = 1 := by unfold f_X5_requireSetting; rw [if_neg h0, if_neg h1]
  have e : f_X5_setting S.2.2.1 p = (1, 0) := by unfold f_X5_setting; rw [gLet_e e1]; rfl
  have e2 : f_L_trySetting S.2.2.1 p = -9999002 := by unfold f_L_trySetting; rw [gLet_e e]; rfl
  rw [fc_trySetting, e2]
theorem t_make (S : oS) {p q d : Int32} (h : f_X5_isShape p q = 0 ∨ d < 0 ∨ 4 < d) : fCall S 8 p q d = (-9999002, S) := by
  have e : f_X5_make S.1 S.2.1 S.2.2.1 S.2.2.2.1 S.2.2.2.2.1 S.2.2.2.2.2.1 S.2.2.2.2.2.2.1 S.2.2.2.2.2.2.2.1 S.2.2.2.2.2.2.2.2 p q d = (1, 0, S.2.2.1, S.2.2.2.2.2.2.1, S.2.2.2.2.1, S.2.2.2.2.2.1) := by
    unfold f_X5_make
    rw [gLet_e (b := f_X5_isShape p q) rfl]
    by_cases c : f_X5_isShape p q = 0
    · rw [if_pos c]
    · rw [if_neg c]
      have h' := h.resolve_left c
      by_cases c2 : d < 0
      · rw [if_pos c2]
      · rw [if_neg c2, if_neg (Int32.not_le.mpr (h'.resolve_left c2))]
  have e2 : f_L_tryMake S.1 S.2.1 S.2.2.1 S.2.2.2.1 S.2.2.2.2.1 S.2.2.2.2.2.1 S.2.2.2.2.2.2.1 S.2.2.2.2.2.2.2.1 S.2.2.2.2.2.2.2.2 p q d = (-9999002, S.2.2.1, S.2.2.2.2.2.2.1, S.2.2.2.2.1, S.2.2.2.2.2.1) := by unfold f_L_tryMake; rw [gLet_e e]; rfl
  rw [fc_tryMake, e2]
theorem t_write1 (S : oS) {p : Int32} (q d : Int32) (h : ¬ okL S.2.2.1 p) : fCall S 9 p q d = (-9999001, S) := by
  have e : f_X5_write S.1 S.2.1 S.2.2.1 S.2.2.2.1 S.2.2.2.2.1 S.2.2.2.2.2.1 S.2.2.2.2.2.2.1 S.2.2.2.2.2.2.2.1 S.2.2.2.2.2.2.2.2 p q = (3, 0, S.2.2.1, S.2.2.2.2.2.2.1, S.2.2.2.2.1, S.2.2.2.2.2.1) := by
    unfold f_X5_write; rw [gLet_e (q_l0 h)]; rfl
  have e2 : f_L_tryWrite S.1 S.2.1 S.2.2.1 S.2.2.2.1 S.2.2.2.2.1 S.2.2.2.2.2.1 S.2.2.2.2.2.2.1 S.2.2.2.2.2.2.2.1 S.2.2.2.2.2.2.2.2 p q = (-9999001, S.2.2.1, S.2.2.2.2.2.2.1, S.2.2.2.2.1, S.2.2.2.2.2.1) := by unfold f_L_tryWrite; rw [gLet_e e]; rfl
  rw [fc_tryWrite, e2]
theorem t_write2 (S : oS) {p q : Int32} (d : Int32) (h : okL S.2.2.1 p) (hv : q < 0 ∨ 999 < q) : fCall S 9 p q d = (-9999002, S) := by
  have e : f_X5_write S.1 S.2.1 S.2.2.1 S.2.2.2.1 S.2.2.2.2.1 S.2.2.2.2.2.1 S.2.2.2.2.2.2.1 S.2.2.2.2.2.2.2.1 S.2.2.2.2.2.2.2.2 p q = (1, 0, S.2.2.1, S.2.2.2.2.2.2.1, S.2.2.2.2.1, S.2.2.2.2.2.1) := by
    unfold f_X5_write; rw [gLet_e (q_l1 h), if_pos rfl, gLet_e (q_v0 hv), if_pos rfl]
  have e2 : f_L_tryWrite S.1 S.2.1 S.2.2.1 S.2.2.2.1 S.2.2.2.2.1 S.2.2.2.2.2.1 S.2.2.2.2.2.2.1 S.2.2.2.2.2.2.2.1 S.2.2.2.2.2.2.2.2 p q = (-9999002, S.2.2.1, S.2.2.2.2.2.2.1, S.2.2.2.2.1, S.2.2.2.2.2.1) := by unfold f_L_tryWrite; rw [gLet_e e]; rfl
  rw [fc_tryWrite, e2]
theorem t_hammer1 (S : oS) {p : Int32} (q d : Int32) (h : ¬ okL S.2.2.1 p) : fCall S 10 p q d = (-9999001, S) := by
  have e : f_X5_hammer S.1 S.2.1 S.2.2.1 S.2.2.2.1 S.2.2.2.2.1 S.2.2.2.2.2.1 S.2.2.2.2.2.2.1 S.2.2.2.2.2.2.2.1 S.2.2.2.2.2.2.2.2 p q = (3, 0, S.2.2.1, S.2.2.2.2.2.2.1, S.2.2.2.2.1, S.2.2.2.2.2.1) := by
    unfold f_X5_hammer; rw [gLet_e (q_l0 h)]; rfl
  have e2 : f_L_tryHammer S.1 S.2.1 S.2.2.1 S.2.2.2.1 S.2.2.2.2.1 S.2.2.2.2.2.1 S.2.2.2.2.2.2.1 S.2.2.2.2.2.2.2.1 S.2.2.2.2.2.2.2.2 p q = (-9999001, S.2.2.1, S.2.2.2.2.2.2.1, S.2.2.2.2.1, S.2.2.2.2.2.1) := by unfold f_L_tryHammer; rw [gLet_e e]; rfl
  rw [fc_tryHammer, e2]
theorem t_hammer2 (S : oS) {p q : Int32} (d : Int32) (h : okL S.2.2.1 p) (hv : q < 1 ∨ 500 < q) : fCall S 10 p q d = (-9999002, S) := by
  have e : f_X5_hammer S.1 S.2.1 S.2.2.1 S.2.2.2.1 S.2.2.2.2.1 S.2.2.2.2.2.1 S.2.2.2.2.2.2.1 S.2.2.2.2.2.2.2.1 S.2.2.2.2.2.2.2.2 p q = (1, 0, S.2.2.1, S.2.2.2.2.2.2.1, S.2.2.2.2.1, S.2.2.2.2.2.1) := by
    unfold f_X5_hammer; rw [gLet_e (q_l1 h), if_pos rfl, gLet_e (q_h0 hv), if_neg (by decide)]
  have e2 : f_L_tryHammer S.1 S.2.1 S.2.2.1 S.2.2.2.1 S.2.2.2.2.1 S.2.2.2.2.2.1 S.2.2.2.2.2.2.1 S.2.2.2.2.2.2.2.1 S.2.2.2.2.2.2.2.2 p q = (-9999002, S.2.2.1, S.2.2.2.2.2.2.1, S.2.2.2.2.1, S.2.2.2.2.2.1) := by unfold f_L_tryHammer; rw [gLet_e e]; rfl
  rw [fc_tryHammer, e2]
theorem t_all (S : oS) {p : Int32} (q d : Int32) (h : p < 1 ∨ 50 < p) : fCall S 11 p q d = (-9999002, S) := by
  have e1 : f_X5_isRounds p = 0 := by
    unfold f_X5_isRounds
    by_cases c : p < 1
    · rw [if_pos c]
    · rw [if_neg c, if_pos (h.resolve_left c)]
  have e : f_X5_all S.1 S.2.1 S.2.2.1 S.2.2.2.1 S.2.2.2.2.1 S.2.2.2.2.2.1 S.2.2.2.2.2.2.1 S.2.2.2.2.2.2.2.1 S.2.2.2.2.2.2.2.2 p = (1, 0, S.2.2.1, S.2.2.2.2.2.2.1, S.2.2.2.2.1, S.2.2.2.2.2.1) := by
    unfold f_X5_all; rw [gLet_e e1]; rfl
  have e2 : f_L_tryAll S.1 S.2.1 S.2.2.1 S.2.2.2.1 S.2.2.2.2.1 S.2.2.2.2.2.1 S.2.2.2.2.2.2.1 S.2.2.2.2.2.2.2.1 S.2.2.2.2.2.2.2.2 p = (-9999002, S.2.2.1, S.2.2.2.2.2.2.1, S.2.2.2.2.1, S.2.2.2.2.2.1) := by unfold f_L_tryAll; rw [gLet_e e]; rfl
  rw [fc_tryAll, e2]
theorem sv_0 {p q : Int32} (h : (p = 0 ∧ (q < 5 ∨ 999 < q)) ∨ (p = 1 ∧ (q < 1 ∨ 50 < q)) ∨ (¬ p = 0 ∧ ¬ p = 1)) : f_X5_isSettingValue p q = 0 := by
  unfold f_X5_isSettingValue
  rcases h with ⟨rfl, h⟩ | ⟨rfl, h⟩ | ⟨h0, h1⟩
  · rw [if_pos rfl]
    by_cases c : q < 5
    · rw [if_pos c]
    · rw [if_neg c, if_pos (h.resolve_left c)]
  · rw [if_neg (by decide), if_pos rfl]
    by_cases c : q < 1
    · rw [if_pos c]
    · rw [if_neg c, if_pos (h.resolve_left c)]
  · rw [if_neg h0, if_neg h1]
theorem t_laysS (S : oS) {p q : Int32} (d : Int32) (h : f_X5_isSettingValue p q = 0) : fCall S 12 p q d = (-9999002, S) := by
  have e : f_X5_set S.1 S.2.1 S.2.2.1 S.2.2.2.1 S.2.2.2.2.1 S.2.2.2.2.2.1 S.2.2.2.2.2.2.1 S.2.2.2.2.2.2.2.1 S.2.2.2.2.2.2.2.2 p q = (1, 0, S.2.2.1, S.2.2.2.2.2.2.1, S.2.2.2.2.1, S.2.2.2.2.2.1) := by
    unfold f_X5_set; rw [gLet_e h]; rfl
  have e2 : f_L_tryLay S.1 S.2.1 S.2.2.1 S.2.2.2.1 S.2.2.2.2.1 S.2.2.2.2.2.1 S.2.2.2.2.2.2.1 S.2.2.2.2.2.2.2.1 S.2.2.2.2.2.2.2.2 p q = (-9999002, S.2.2.1, S.2.2.2.2.2.2.1, S.2.2.2.2.1, S.2.2.2.2.2.1) := by unfold f_L_tryLay; rw [gLet_e e]; rfl
  rw [fc_tryLay, e2]
theorem t_life (S : oS) {p : Int32} (q d : Int32) (h : ¬ okL S.2.2.1 p) : fCall S 14 p q d = (-9999001, S) := by
  have e : f_X5_life S.2.2.1 S.2.2.2.1 p = (3, 0, S.2.2.2.1) := by unfold f_X5_life; rw [gLet_e (q_l0 h)]; rfl
  have e2 : f_L_tryLife S.2.2.1 S.2.2.2.1 p = (-9999001, S.2.2.2.1) := by unfold f_L_tryLife; rw [gLet_e e]; rfl
  rw [fc_tryLife, e2]
theorem t_every1 (S : oS) {p : Int32} (q d : Int32) (h : ¬ okL S.2.2.1 p) : fCall S 16 p q d = (-9999001, S) := by
  have e : f_X5_ifEvery S.2.2.1 S.2.2.2.1 p q d = (3, 0, S.2.2.2.1) := by unfold f_X5_ifEvery; rw [gLet_e (q_l0 h)]; rfl
  have e2 : f_L_tryEvery S.2.2.1 S.2.2.2.1 p q d = (-9999001, S.2.2.2.1) := by unfold f_L_tryEvery; rw [gLet_e e]; rfl
  rw [fc_tryEvery, e2]
theorem t_every2 (S : oS) {p q : Int32} (d : Int32) (h : okL S.2.2.1 p) (hv : q < 1 ∨ 50 < q) : fCall S 16 p q d = (-9999002, S) := by
  have e : f_X5_ifEvery S.2.2.1 S.2.2.2.1 p q d = (1, 0, S.2.2.2.1) := by
    unfold f_X5_ifEvery; rw [gLet_e (q_l1 h), if_pos rfl]
    by_cases c : q < 1
    · rw [if_pos c]
    · rw [if_neg c, if_neg (Int32.not_le.mpr (hv.resolve_left c))]
  have e2 : f_L_tryEvery S.2.2.1 S.2.2.2.1 p q d = (-9999002, S.2.2.2.1) := by unfold f_L_tryEvery; rw [gLet_e e]; rfl
  rw [fc_tryEvery, e2]
theorem t_every3 (S : oS) {p q d : Int32} (h : okL S.2.2.1 p) (h0 : ¬ q < 1) (h1 : q ≤ 50) (hv : d < 1 ∨ 500 < d) : fCall S 16 p q d = (-9999002, S) := by
  have e : f_X5_ifEvery S.2.2.1 S.2.2.2.1 p q d = (1, 0, S.2.2.2.1) := by
    unfold f_X5_ifEvery; rw [gLet_e (q_l1 h), if_pos rfl, if_neg h0, if_pos h1, gLet_e (q_h0 hv)]; rfl
  have e2 : f_L_tryEvery S.2.2.1 S.2.2.2.1 p q d = (-9999002, S.2.2.2.1) := by unfold f_L_tryEvery; rw [gLet_e e]; rfl
  rw [fc_tryEvery, e2]
theorem t_best1 (S : oS) {p : Int32} (q d : Int32) (h : ¬ okL S.2.2.1 p) : fCall S 17 p q d = (-9999001, S) := by
  have e : f_X5_bestEvery S.2.2.1 S.2.2.2.1 p q = (3, 0, S.2.2.2.1) := by unfold f_X5_bestEvery; rw [gLet_e (q_l0 h)]; rfl
  have e2 : f_L_tryBest S.2.2.1 S.2.2.2.1 p q = (-9999001, S.2.2.2.1) := by unfold f_L_tryBest; rw [gLet_e e]; rfl
  rw [fc_tryBest, e2]
theorem t_best2 (S : oS) {p q : Int32} (d : Int32) (h : okL S.2.2.1 p) (hv : q < 1 ∨ 500 < q) : fCall S 17 p q d = (-9999002, S) := by
  have e : f_X5_bestEvery S.2.2.1 S.2.2.2.1 p q = (1, 0, S.2.2.2.1) := by
    unfold f_X5_bestEvery; rw [gLet_e (q_l1 h), if_pos rfl, gLet_e (q_h0 hv)]; rfl
  have e2 : f_L_tryBest S.2.2.1 S.2.2.2.1 p q = (-9999002, S.2.2.2.1) := by unfold f_L_tryBest; rw [gLet_e e]; rfl
  rw [fc_tryBest, e2]
theorem t_moves (S : oS) {p : Int32} (q d : Int32) (h : ¬ okL S.2.2.1 p) : fCall S 18 p q d = (-9999001, S) := by
  have e : f_X5_movesTo S.2.2.1 p = (3, 0) := by unfold f_X5_movesTo; rw [gLet_e (q_l0 h)]; rfl
  have e2 : f_L_tryMoves S.2.2.1 p = -9999001 := by unfold f_L_tryMoves; rw [gLet_e e]; rfl
  rw [fc_tryMoves, e2]
theorem t_behind1 (S : oS) {p : Int32} (q d : Int32) (h : ¬ okL S.2.2.1 p) : fCall S 19 p q d = (-9999001, S) := by
  have e : f_X5_placeBehind S.2.2.1 p q = (3, 0) := by unfold f_X5_placeBehind; rw [gLet_e (q_l0 h)]; rfl
  have e2 : f_L_tryBehind S.2.2.1 p q = -9999001 := by unfold f_L_tryBehind; rw [gLet_e e]; rfl
  rw [fc_tryBehind, e2]
theorem t_behind2 (S : oS) {p q : Int32} (d : Int32) (h : okL S.2.2.1 p) (hv : q < 0 ∨ 9999 < q) : fCall S 19 p q d = (-9999002, S) := by
  have e : f_X5_placeBehind S.2.2.1 p q = (1, 0) := by
    unfold f_X5_placeBehind; rw [gLet_e (q_l1 h), if_pos rfl]
    by_cases c : q < 0
    · rw [if_pos c]
    · rw [if_neg c, if_neg (Int32.not_le.mpr (hv.resolve_left c))]
  have e2 : f_L_tryBehind S.2.2.1 p q = -9999002 := by unfold f_L_tryBehind; rw [gLet_e e]; rfl
  rw [fc_tryBehind, e2]
theorem t_keep (S : oS) {p : Int32} (q d : Int32) (h : p < 0 ∨ 2 ≤ p) : fCall S 20 p q d = (-9999001, S) := by
  have e : f_X5_save S.1 S.2.1 S.2.2.1 S.2.2.2.1 S.2.2.2.2.1 S.2.2.2.2.2.1 S.2.2.2.2.2.2.1 S.2.2.2.2.2.2.2.1 S.2.2.2.2.2.2.2.2 p = (3, 0, S.2.2.2.2.2.2.2.1, S.2.2.2.2.2.2.2.2) := by
    unfold f_X5_save; rw [gLet_e (q_s0 h)]; rfl
  have e2 : f_L_tryKeep S.1 S.2.1 S.2.2.1 S.2.2.2.1 S.2.2.2.2.1 S.2.2.2.2.2.1 S.2.2.2.2.2.2.1 S.2.2.2.2.2.2.2.1 S.2.2.2.2.2.2.2.2 p = (-9999001, S.2.2.2.2.2.2.2.1, S.2.2.2.2.2.2.2.2) := by unfold f_L_tryKeep; rw [gLet_e e]; rfl
  rw [fc_tryKeep, e2]
theorem t_back (S : oS) {p : Int32} (q d : Int32) (h : p < 0 ∨ 2 ≤ p) : fCall S 21 p q d = (-9999001, S) := by
  have e : f_X5_restore S.1 S.2.1 S.2.2.1 S.2.2.2.1 S.2.2.2.2.1 S.2.2.2.2.2.1 S.2.2.2.2.2.2.1 S.2.2.2.2.2.2.2.1 S.2.2.2.2.2.2.2.2 p = (3, 0, S.2.2.1, S.2.2.2.2.1) := by
    unfold f_X5_restore; rw [gLet_e (q_s0 h)]; rfl
  have e2 : f_L_tryBack S.1 S.2.1 S.2.2.1 S.2.2.2.1 S.2.2.2.2.1 S.2.2.2.2.2.1 S.2.2.2.2.2.2.1 S.2.2.2.2.2.2.2.1 S.2.2.2.2.2.2.2.2 p = (-9999001, S.2.2.1, S.2.2.2.2.1) := by unfold f_L_tryBack; rw [gLet_e e]; rfl
  rw [fc_tryBack, e2]
/-- scripts and simulations, on an object -/
def fScr (S : oS) (n : Int32) (x : Int64) : Int32 × oS := ((f_L_doScript S.2.2.1 S.2.2.2.1 n x).1, (S.1, S.2.1, S.2.2.1, (f_L_doScript S.2.2.1 S.2.2.2.1 n x).2, S.2.2.2.2))
def fSim (S : oS) (x : Int64) (m : Int32) : Int32 × oS := ((f_L_doSimulate S.2.2.1 S.2.2.2.1 x m).1, (S.1, S.2.1, S.2.2.1, (f_L_doSimulate S.2.2.1 S.2.2.2.1 x m).2, S.2.2.2.2))
theorem t_sim (S : oS) (x : Int64) {m : Int32} (h : m < 1 ∨ 300 < m) : fSim S x m = (-9999002, S) := by
  have e : f_X5_simulate S.2.2.1 S.2.2.2.1 x m = (1, 0, S.2.2.2.1) := by
    unfold f_X5_simulate
    by_cases c : m < 1
    · rw [if_pos c]
    · rw [if_neg c, if_neg (Int32.not_le.mpr (h.resolve_left c))]
  have e2 : f_L_doSimulate S.2.2.1 S.2.2.2.1 x m = (-9999002, S.2.2.2.1) := by unfold f_L_doSimulate; rw [gLet_e e]; rfl
  unfold fSim; rw [e2]
theorem t_scr1 (S : oS) {n : Int32} (x : Int64) (h : n < 1) : fScr S n x = (-9999002, S) := by
  have e : f_X5_runScript S.2.2.1 S.2.2.2.1 n x = (1, 0, S.2.2.2.1) := by
    unfold f_X5_runScript
    rw [if_pos h]
  have e2 : f_L_doScript S.2.2.1 S.2.2.2.1 n x = (-9999002, S.2.2.2.1) := by unfold f_L_doScript; rw [gLet_e e]; rfl
  unfold fScr; rw [e2]
theorem m_1p6 : (1000000 : Int64) = lN 1000000 := rfl
theorem t_scr2 (S : oS) {x : Nat} (h0 : 1000000 ≤ x) (h1 : x < 2 ^ 31) : fScr S 1 (lN x) = (-9999002, S) := by
  have hz : (0 : Int64) = lN 0 := rfl
  have e3 : f_X5_withoutLastCommands (lN x) 1 = lN (x / 1000000) := by
    have hf : ((1 : Int32).toInt - (0 : Int32).toInt).toNat + 1 = 0 + 1 + 1 := by decide
    unfold f_X5_withoutLastCommands
    rw [hf, f_X5_withoutLastCommands_L5_s, if_neg (by decide), f_X5_withoutLastCommands_L5_s, if_pos (by decide), m_1p6]
    exact pk_lDiv (by omega) (by omega) (by omega)
  have hd : 1 ≤ x / 1000000 := (Nat.le_div_iff_mul_le (by omega)).mpr (by omega)
  have hd2 : x / 1000000 ≤ x := Nat.div_le_self _ _
  have e : f_X5_runScript S.2.2.1 S.2.2.2.1 1 (lN x) = (1, 0, S.2.2.2.1) := by
    unfold f_X5_runScript
    rw [if_neg (by decide), if_pos (by decide), gLet_e e3]
    split
    · rfl
    · refine if_neg (fun q => ?_)
      have q2 := (lg_cmp_eq _ _).mp q
      rw [hz, lN_eq (by omega) (by omega)] at q2
      omega
  have e2 : f_L_doScript S.2.2.1 S.2.2.2.1 1 (lN x) = (-9999002, S.2.2.2.1) := by unfold f_L_doScript; rw [gLet_e e]; rfl
  unfold fScr; rw [e2]
