/-! THE LAW'S OWN METHODS -/
theorem xa_tlP {D : va_G} {cl : List vw_C} {q : Nat × va_E} {wc : va_W} {H : Heap} (h : va_P D cl (q :: wc) H) : va_P D cl wc H := fun k z hz => h (k + 1) z hz
theorem xa_tlD {A : Nat → Prop} {q : Nat × va_E} {wc : va_W} (h : va_D A (q :: wc)) : va_D A wc := ⟨fun i j a b ha hb e => Nat.succ.inj (h.1 (i + 1) (j + 1) a b ha hb e), fun k z hz => h.2 (k + 1) z hz⟩
theorem cd_sub {k : Nat} {a b : List Nat} (h : ∀ x ∈ a, x ∈ b) (hk : k ∈ a) : k ∈ b := h k hk
theorem cd_X5_append (tn : Int32) (tf : Nat → Int32) (p0 : Int32) : (f_X5_append tn tf p0).1 ∈ [0, 1, 2] := by
  rw [f_X5_append_s]
  refine gIf_i (P := fun z : Nat × Int32 × Int32 × (Nat → Int32) => z.1 ∈ [0, 1, 2]) (fun c1 => ?_) (fun c1 => ?_)
  · exact (show (1 : Nat) ∈ [0, 1, 2] by decide)
  · refine gIf_i (P := fun z : Nat × Int32 × Int32 × (Nat → Int32) => z.1 ∈ [0, 1, 2]) (fun c2 => ?_) (fun c2 => ?_)
    · refine gLet_i (P := fun z : Nat × Int32 × Int32 × (Nat → Int32) => z.1 ∈ [0, 1, 2]) (fun v5 ev5 => ?_)
      refine gIf_i (P := fun z : Nat × Int32 × Int32 × (Nat → Int32) => z.1 ∈ [0, 1, 2]) (fun c3 => ?_) (fun c3 => ?_)
      · refine gLet_i (P := fun z : Nat × Int32 × Int32 × (Nat → Int32) => z.1 ∈ [0, 1, 2]) (fun q10 eq10 => ?_)
        exact (show (0 : Nat) ∈ [0, 1, 2] by decide)
      · exact (show (2 : Nat) ∈ [0, 1, 2] by decide)
    · exact (show (1 : Nat) ∈ [0, 1, 2] by decide)
theorem cd_X5_load (tn : Int32) (tf : Nat → Int32) (r : gR) (qz : Int32) (qn : Int32) (lfl : Nat → Int32) : (f_X5_load tn tf r qz qn lfl).1 ∈ [0, 2] := by
  rw [f_X5_load_s]
  refine gLet_i (P := fun z : Nat × Int32 × gR × Int32 × (Nat → Int32) => z.1 ∈ [0, 2]) (fun v2 ev2 => ?_)
  refine gIf_i (P := fun z : Nat × Int32 × gR × Int32 × (Nat → Int32) => z.1 ∈ [0, 2]) (fun c1 => ?_) (fun c1 => ?_)
  · refine gLet_i (P := fun z : Nat × Int32 × gR × Int32 × (Nat → Int32) => z.1 ∈ [0, 2]) (fun u5 eu5 => ?_)
    refine gLet_i (P := fun z : Nat × Int32 × gR × Int32 × (Nat → Int32) => z.1 ∈ [0, 2]) (fun u7 eu7 => ?_)
    refine gLet_i (P := fun z : Nat × Int32 × gR × Int32 × (Nat → Int32) => z.1 ∈ [0, 2]) (fun u9 eu9 => ?_)
    refine gLet_i (P := fun z : Nat × Int32 × gR × Int32 × (Nat → Int32) => z.1 ∈ [0, 2]) (fun q13 eq13 => ?_)
    exact (show (0 : Nat) ∈ [0, 2] by decide)
  · exact (show (2 : Nat) ∈ [0, 2] by decide)
theorem cd_X5_about (r : gR) (p0 : Int32) : (f_X5_about r p0).1 ∈ [0, 1] := by
  rw [f_X5_about_s]
  refine gIf_i (P := fun z : Nat × Int32 => z.1 ∈ [0, 1]) (fun c1 => ?_) (fun c1 => ?_)
  · exact (show (1 : Nat) ∈ [0, 1] by decide)
  · refine gIf_i (P := fun z : Nat × Int32 => z.1 ∈ [0, 1]) (fun c2 => ?_) (fun c2 => ?_)
    · refine gLet_i (P := fun z : Nat × Int32 => z.1 ∈ [0, 1]) (fun v5 ev5 => ?_)
      exact (show (0 : Nat) ∈ [0, 1] by decide)
    · exact (show (1 : Nat) ∈ [0, 1] by decide)
theorem cd_X5_requireLine (r : gR) (p0 : Int32) : (f_X5_requireLine r p0) ∈ [0, 3] := by
  rw [f_X5_requireLine_s]
  refine gLet_i (P := fun z : Nat => z ∈ [0, 3]) (fun v2 ev2 => ?_)
  refine gIf_i (P := fun z : Nat => z ∈ [0, 3]) (fun c1 => ?_) (fun c1 => ?_)
  · exact (show (3 : Nat) ∈ [0, 3] by decide)
  · exact (show (0 : Nat) ∈ [0, 3] by decide)
theorem cd_X5_read (r : gR) (p0 : Int32) : (f_X5_read r p0).1 ∈ [0, 3] := by
  rw [f_X5_read_s]
  refine gLet_i (P := fun z : Nat × Int32 => z.1 ∈ [0, 3]) (fun n1 en1 => ?_)
  refine gIf_i (P := fun z : Nat × Int32 => z.1 ∈ [0, 3]) (fun c1 => ?_) (fun c1 => ?_)
  · refine gLet_i (P := fun z : Nat × Int32 => z.1 ∈ [0, 3]) (fun v7 ev7 => ?_)
    exact (show (0 : Nat) ∈ [0, 3] by decide)
  · exact cd_sub (a := [0, 3]) (by decide) (by rw [← en1]; exact cd_X5_requireLine _ _)
theorem cd_X5_place (r : gR) (p0 : Int32) : (f_X5_place r p0).1 ∈ [0, 3] := by
  rw [f_X5_place_s]
  refine gLet_i (P := fun z : Nat × Int32 => z.1 ∈ [0, 3]) (fun n1 en1 => ?_)
  refine gIf_i (P := fun z : Nat × Int32 => z.1 ∈ [0, 3]) (fun c1 => ?_) (fun c1 => ?_)
  · refine gLet_i (P := fun z : Nat × Int32 => z.1 ∈ [0, 3]) (fun v7 ev7 => ?_)
    exact (show (0 : Nat) ∈ [0, 3] by decide)
  · exact cd_sub (a := [0, 3]) (by decide) (by rw [← en1]; exact cd_X5_requireLine _ _)
theorem cd_X5_requirePlace (r : gR) (p0 : Int32) : (f_X5_requirePlace r p0) ∈ [0, 3] := by
  rw [f_X5_requirePlace_s]
  refine gLet_i (P := fun z : Nat => z ∈ [0, 3]) (fun v2 ev2 => ?_)
  refine gIf_i (P := fun z : Nat => z ∈ [0, 3]) (fun c1 => ?_) (fun c1 => ?_)
  · exact (show (3 : Nat) ∈ [0, 3] by decide)
  · exact (show (0 : Nat) ∈ [0, 3] by decide)
theorem cd_X5_line (r : gR) (p0 : Int32) : (f_X5_line r p0).1 ∈ [0, 3] := by
  rw [f_X5_line_s]
  refine gLet_i (P := fun z : Nat × Int32 => z.1 ∈ [0, 3]) (fun n1 en1 => ?_)
  refine gIf_i (P := fun z : Nat × Int32 => z.1 ∈ [0, 3]) (fun c1 => ?_) (fun c1 => ?_)
  · refine gLet_i (P := fun z : Nat × Int32 => z.1 ∈ [0, 3]) (fun v7 ev7 => ?_)
    exact (show (0 : Nat) ∈ [0, 3] by decide)
  · exact cd_sub (a := [0, 3]) (by decide) (by rw [← en1]; exact cd_X5_requirePlace _ _)
theorem cd_X5_wear (r : gR) (p0 : Int32) : (f_X5_wear r p0).1 ∈ [0, 3] := by
  rw [f_X5_wear_s]
  refine gLet_i (P := fun z : Nat × Int32 => z.1 ∈ [0, 3]) (fun n1 en1 => ?_)
  refine gIf_i (P := fun z : Nat × Int32 => z.1 ∈ [0, 3]) (fun c1 => ?_) (fun c1 => ?_)
  · refine gLet_i (P := fun z : Nat × Int32 => z.1 ∈ [0, 3]) (fun v7 ev7 => ?_)
    exact (show (0 : Nat) ∈ [0, 3] by decide)
  · exact cd_sub (a := [0, 3]) (by decide) (by rw [← en1]; exact cd_X5_requirePlace _ _)
theorem cd_X5_requireSetting (p0 : Int32) : (f_X5_requireSetting p0) ∈ [0, 1] := by
  rw [f_X5_requireSetting_s]
  refine gIf_i (P := fun z : Nat => z ∈ [0, 1]) (fun c1 => ?_) (fun c1 => ?_)
  · exact (show (0 : Nat) ∈ [0, 1] by decide)
  · refine gIf_i (P := fun z : Nat => z ∈ [0, 1]) (fun c2 => ?_) (fun c2 => ?_)
    · exact (show (0 : Nat) ∈ [0, 1] by decide)
    · exact (show (1 : Nat) ∈ [0, 1] by decide)
theorem cd_X5_setting (r : gR) (p0 : Int32) : (f_X5_setting r p0).1 ∈ [0, 1] := by
  rw [f_X5_setting_s]
  refine gLet_i (P := fun z : Nat × Int32 => z.1 ∈ [0, 1]) (fun n1 en1 => ?_)
  refine gIf_i (P := fun z : Nat × Int32 => z.1 ∈ [0, 1]) (fun c1 => ?_) (fun c1 => ?_)
  · refine gLet_i (P := fun z : Nat × Int32 => z.1 ∈ [0, 1]) (fun v7 ev7 => ?_)
    exact (show (0 : Nat) ∈ [0, 1] by decide)
  · exact cd_sub (a := [0, 1]) (by decide) (by rw [← en1]; exact cd_X5_requireSetting _)
theorem cd_X5_make (tn : Int32) (tf : Nat → Int32) (r : gR) (rc : gR) (qz : Int32) (qn : Int32) (hq : Nat → Option gR) (lq : Nat → Option gR) (lfl : Nat → Int32) (p0 : Int32) (p1 : Int32) (p2 : Int32) : (f_X5_make tn tf r rc qz qn hq lq lfl p0 p1 p2).1 ∈ [0, 1] := by
  rw [f_X5_make_s]
  refine gLet_i (P := fun z : Nat × Int32 × gR × (Nat → Option gR) × Int32 × Int32 => z.1 ∈ [0, 1]) (fun v2 ev2 => ?_)
  refine gIf_i (P := fun z : Nat × Int32 × gR × (Nat → Option gR) × Int32 × Int32 => z.1 ∈ [0, 1]) (fun c1 => ?_) (fun c1 => ?_)
  · exact (show (1 : Nat) ∈ [0, 1] by decide)
  · refine gIf_i (P := fun z : Nat × Int32 × gR × (Nat → Option gR) × Int32 × Int32 => z.1 ∈ [0, 1]) (fun c2 => ?_) (fun c2 => ?_)
    · exact (show (1 : Nat) ∈ [0, 1] by decide)
    · refine gIf_i (P := fun z : Nat × Int32 × gR × (Nat → Option gR) × Int32 × Int32 => z.1 ∈ [0, 1]) (fun c3 => ?_) (fun c3 => ?_)
      · refine gLet_i (P := fun z : Nat × Int32 × gR × (Nat → Option gR) × Int32 × Int32 => z.1 ∈ [0, 1]) (fun u8 eu8 => ?_)
        refine gLet_i (P := fun z : Nat × Int32 × gR × (Nat → Option gR) × Int32 × Int32 => z.1 ∈ [0, 1]) (fun u13 eu13 => ?_)
        refine gLet_i (P := fun z : Nat × Int32 × gR × (Nat → Option gR) × Int32 × Int32 => z.1 ∈ [0, 1]) (fun v15 ev15 => ?_)
        exact (show (0 : Nat) ∈ [0, 1] by decide)
      · exact (show (1 : Nat) ∈ [0, 1] by decide)
theorem cd_X5_write (tn : Int32) (tf : Nat → Int32) (r : gR) (rc : gR) (qz : Int32) (qn : Int32) (hq : Nat → Option gR) (lq : Nat → Option gR) (lfl : Nat → Int32) (p0 : Int32) (p1 : Int32) : (f_X5_write tn tf r rc qz qn hq lq lfl p0 p1).1 ∈ [0, 1, 2, 3] := by
  rw [f_X5_write_s]
  refine gLet_i (P := fun z : Nat × Int32 × gR × (Nat → Option gR) × Int32 × Int32 => z.1 ∈ [0, 1, 2, 3]) (fun n1 en1 => ?_)
  refine gIf_i (P := fun z : Nat × Int32 × gR × (Nat → Option gR) × Int32 × Int32 => z.1 ∈ [0, 1, 2, 3]) (fun c1 => ?_) (fun c1 => ?_)
  · refine gLet_i (P := fun z : Nat × Int32 × gR × (Nat → Option gR) × Int32 × Int32 => z.1 ∈ [0, 1, 2, 3]) (fun v7 ev7 => ?_)
    refine gIf_i (P := fun z : Nat × Int32 × gR × (Nat → Option gR) × Int32 × Int32 => z.1 ∈ [0, 1, 2, 3]) (fun c2 => ?_) (fun c2 => ?_)
    · exact (show (1 : Nat) ∈ [0, 1, 2, 3] by decide)
    · refine gIf_i (P := fun z : Nat × Int32 × gR × (Nat → Option gR) × Int32 × Int32 => z.1 ∈ [0, 1, 2, 3]) (fun c3 => ?_) (fun c3 => ?_)
      · refine gLet_i (P := fun z : Nat × Int32 × gR × (Nat → Option gR) × Int32 × Int32 => z.1 ∈ [0, 1, 2, 3]) (fun u11 eu11 => ?_)
        refine gLet_i (P := fun z : Nat × Int32 × gR × (Nat → Option gR) × Int32 × Int32 => z.1 ∈ [0, 1, 2, 3]) (fun q18 eq18 => ?_)
        exact (show (0 : Nat) ∈ [0, 1, 2, 3] by decide)
      · exact (show (2 : Nat) ∈ [0, 1, 2, 3] by decide)
  · exact cd_sub (a := [0, 3]) (by decide) (by rw [← en1]; exact cd_X5_requireLine _ _)
theorem cd_X5_requireHammered (p0 : Int32) : (f_X5_requireHammered p0) ∈ [0, 1] := by
  rw [f_X5_requireHammered_s]
  refine gLet_i (P := fun z : Nat => z ∈ [0, 1]) (fun v2 ev2 => ?_)
  refine gIf_i (P := fun z : Nat => z ∈ [0, 1]) (fun c1 => ?_) (fun c1 => ?_)
  · exact (show (1 : Nat) ∈ [0, 1] by decide)
  · exact (show (0 : Nat) ∈ [0, 1] by decide)
theorem cd_X5_hammer (tn : Int32) (tf : Nat → Int32) (r : gR) (rc : gR) (qz : Int32) (qn : Int32) (hq : Nat → Option gR) (lq : Nat → Option gR) (lfl : Nat → Int32) (p0 : Int32) (p1 : Int32) : (f_X5_hammer tn tf r rc qz qn hq lq lfl p0 p1).1 ∈ [0, 1, 3] := by
  rw [f_X5_hammer_s]
  refine gLet_i (P := fun z : Nat × Int32 × gR × (Nat → Option gR) × Int32 × Int32 => z.1 ∈ [0, 1, 3]) (fun n1 en1 => ?_)
  refine gIf_i (P := fun z : Nat × Int32 × gR × (Nat → Option gR) × Int32 × Int32 => z.1 ∈ [0, 1, 3]) (fun c1 => ?_) (fun c1 => ?_)
  · refine gLet_i (P := fun z : Nat × Int32 × gR × (Nat → Option gR) × Int32 × Int32 => z.1 ∈ [0, 1, 3]) (fun n6 en6 => ?_)
    refine gIf_i (P := fun z : Nat × Int32 × gR × (Nat → Option gR) × Int32 × Int32 => z.1 ∈ [0, 1, 3]) (fun c2 => ?_) (fun c2 => ?_)
    · refine gLet_i (P := fun z : Nat × Int32 × gR × (Nat → Option gR) × Int32 × Int32 => z.1 ∈ [0, 1, 3]) (fun u12 eu12 => ?_)
      refine gLet_i (P := fun z : Nat × Int32 × gR × (Nat → Option gR) × Int32 × Int32 => z.1 ∈ [0, 1, 3]) (fun q19 eq19 => ?_)
      exact (show (0 : Nat) ∈ [0, 1, 3] by decide)
    · exact cd_sub (a := [0, 1]) (by decide) (by rw [← en6]; exact cd_X5_requireHammered _)
  · exact cd_sub (a := [0, 3]) (by decide) (by rw [← en1]; exact cd_X5_requireLine _ _)
theorem cd_X5_requireStore (r : gR) : (f_X5_requireStore r) ∈ [0, 2] := by
  rw [f_X5_requireStore_s]
  refine gLet_i (P := fun z : Nat => z ∈ [0, 2]) (fun v2 ev2 => ?_)
  refine gIf_i (P := fun z : Nat => z ∈ [0, 2]) (fun c1 => ?_) (fun c1 => ?_)
  · exact (show (2 : Nat) ∈ [0, 2] by decide)
  · exact (show (0 : Nat) ∈ [0, 2] by decide)
theorem cd_X5_all (tn : Int32) (tf : Nat → Int32) (r : gR) (rc : gR) (qz : Int32) (qn : Int32) (hq : Nat → Option gR) (lq : Nat → Option gR) (lfl : Nat → Int32) (p0 : Int32) : (f_X5_all tn tf r rc qz qn hq lq lfl p0).1 ∈ [0, 1, 2] := by
  rw [f_X5_all_s]
  refine gLet_i (P := fun z : Nat × Int32 × gR × (Nat → Option gR) × Int32 × Int32 => z.1 ∈ [0, 1, 2]) (fun v2 ev2 => ?_)
  refine gIf_i (P := fun z : Nat × Int32 × gR × (Nat → Option gR) × Int32 × Int32 => z.1 ∈ [0, 1, 2]) (fun c1 => ?_) (fun c1 => ?_)
  · exact (show (1 : Nat) ∈ [0, 1, 2] by decide)
  · refine gLet_i (P := fun z : Nat × Int32 × gR × (Nat → Option gR) × Int32 × Int32 => z.1 ∈ [0, 1, 2]) (fun n4 en4 => ?_)
    refine gIf_i (P := fun z : Nat × Int32 × gR × (Nat → Option gR) × Int32 × Int32 => z.1 ∈ [0, 1, 2]) (fun c2 => ?_) (fun c2 => ?_)
    · refine gLet_i (P := fun z : Nat × Int32 × gR × (Nat → Option gR) × Int32 × Int32 => z.1 ∈ [0, 1, 2]) (fun u10 eu10 => ?_)
      refine gLet_i (P := fun z : Nat × Int32 × gR × (Nat → Option gR) × Int32 × Int32 => z.1 ∈ [0, 1, 2]) (fun q17 eq17 => ?_)
      exact (show (0 : Nat) ∈ [0, 1, 2] by decide)
    · exact cd_sub (a := [0, 2]) (by decide) (by rw [← en4]; exact cd_X5_requireStore _)
theorem cd_X5_set (tn : Int32) (tf : Nat → Int32) (r : gR) (rc : gR) (qz : Int32) (qn : Int32) (hq : Nat → Option gR) (lq : Nat → Option gR) (lfl : Nat → Int32) (p0 : Int32) (p1 : Int32) : (f_X5_set tn tf r rc qz qn hq lq lfl p0 p1).1 ∈ [0, 1] := by
  rw [f_X5_set_s]
  refine gLet_i (P := fun z : Nat × Int32 × gR × (Nat → Option gR) × Int32 × Int32 => z.1 ∈ [0, 1]) (fun v2 ev2 => ?_)
  refine gIf_i (P := fun z : Nat × Int32 × gR × (Nat → Option gR) × Int32 × Int32 => z.1 ∈ [0, 1]) (fun c1 => ?_) (fun c1 => ?_)
  · exact (show (1 : Nat) ∈ [0, 1] by decide)
  · refine gLet_i (P := fun z : Nat × Int32 × gR × (Nat → Option gR) × Int32 × Int32 => z.1 ∈ [0, 1]) (fun u5 eu5 => ?_)
    refine gLet_i (P := fun z : Nat × Int32 × gR × (Nat → Option gR) × Int32 × Int32 => z.1 ∈ [0, 1]) (fun v10 ev10 => ?_)
    refine gLet_i (P := fun z : Nat × Int32 × gR × (Nat → Option gR) × Int32 × Int32 => z.1 ∈ [0, 1]) (fun u12 eu12 => ?_)
    exact (show (0 : Nat) ∈ [0, 1] by decide)
theorem cd_X5_undo (tn : Int32) (tf : Nat → Int32) (r : gR) (rc : gR) (qz : Int32) (qn : Int32) (hq : Nat → Option gR) (lq : Nat → Option gR) (lfl : Nat → Int32) : (f_X5_undo tn tf r rc qz qn hq lq lfl).1 ∈ [0, 2] := by
  rw [f_X5_undo_s]
  refine gLet_i (P := fun z : Nat × Int32 × gR × Int32 × Int32 => z.1 ∈ [0, 2]) (fun q6 eq6 => ?_)
  refine gIf_i (P := fun z : Nat × Int32 × gR × Int32 × Int32 => z.1 ∈ [0, 2]) (fun c1 => ?_) (fun c1 => ?_)
  · exact (show (2 : Nat) ∈ [0, 2] by decide)
  · refine gLet_i (P := fun z : Nat × Int32 × gR × Int32 × Int32 => z.1 ∈ [0, 2]) (fun v10 ev10 => ?_)
    exact (show (0 : Nat) ∈ [0, 2] by decide)
theorem cd_X5_life (r : gR) (rc : gR) (p0 : Int32) : (f_X5_life r rc p0).1 ∈ [0, 3] := by
  rw [f_X5_life_s]
  refine gLet_i (P := fun z : Nat × Int32 × gR => z.1 ∈ [0, 3]) (fun n1 en1 => ?_)
  refine gIf_i (P := fun z : Nat × Int32 × gR => z.1 ∈ [0, 3]) (fun c1 => ?_) (fun c1 => ?_)
  · refine gLet_i (P := fun z : Nat × Int32 × gR => z.1 ∈ [0, 3]) (fun q11 eq11 => ?_)
    exact (show (0 : Nat) ∈ [0, 3] by decide)
  · exact cd_sub (a := [0, 3]) (by decide) (by rw [← en1]; exact cd_X5_requireLine _ _)
theorem cd_X5_lifeOfAll (r : gR) (rc : gR) : (f_X5_lifeOfAll r rc).1 ∈ [0, 2] := by
  rw [f_X5_lifeOfAll_s]
  refine gLet_i (P := fun z : Nat × Int32 × gR => z.1 ∈ [0, 2]) (fun n1 en1 => ?_)
  refine gIf_i (P := fun z : Nat × Int32 × gR => z.1 ∈ [0, 2]) (fun c1 => ?_) (fun c1 => ?_)
  · refine gLet_i (P := fun z : Nat × Int32 × gR => z.1 ∈ [0, 2]) (fun q11 eq11 => ?_)
    exact (show (0 : Nat) ∈ [0, 2] by decide)
  · exact cd_sub (a := [0, 2]) (by decide) (by rw [← en1]; exact cd_X5_requireStore _)
theorem cd_X5_ifEvery (r : gR) (rc : gR) (p0 : Int32) (p1 : Int32) (p2 : Int32) : (f_X5_ifEvery r rc p0 p1 p2).1 ∈ [0, 1, 3] := by
  rw [f_X5_ifEvery_s]
  refine gLet_i (P := fun z : Nat × Int32 × gR => z.1 ∈ [0, 1, 3]) (fun n1 en1 => ?_)
  refine gIf_i (P := fun z : Nat × Int32 × gR => z.1 ∈ [0, 1, 3]) (fun c1 => ?_) (fun c1 => ?_)
  · refine gIf_i (P := fun z : Nat × Int32 × gR => z.1 ∈ [0, 1, 3]) (fun c2 => ?_) (fun c2 => ?_)
    · exact (show (1 : Nat) ∈ [0, 1, 3] by decide)
    · refine gIf_i (P := fun z : Nat × Int32 × gR => z.1 ∈ [0, 1, 3]) (fun c3 => ?_) (fun c3 => ?_)
      · refine gLet_i (P := fun z : Nat × Int32 × gR => z.1 ∈ [0, 1, 3]) (fun n9 en9 => ?_)
        refine gIf_i (P := fun z : Nat × Int32 × gR => z.1 ∈ [0, 1, 3]) (fun c4 => ?_) (fun c4 => ?_)
        · refine gLet_i (P := fun z : Nat × Int32 × gR => z.1 ∈ [0, 1, 3]) (fun q17 eq17 => ?_)
          exact (show (0 : Nat) ∈ [0, 1, 3] by decide)
        · exact cd_sub (a := [0, 1]) (by decide) (by rw [← en9]; exact cd_X5_requireHammered _)
      · exact (show (1 : Nat) ∈ [0, 1, 3] by decide)
  · exact cd_sub (a := [0, 3]) (by decide) (by rw [← en1]; exact cd_X5_requireLine _ _)
theorem cd_X5_bestEvery_L25 (r : gR) (p0 : Int32) (p1 : Int32) : ∀ (n : Nat) (x3 : Int32) (x4 : Int32) (x5 : Int32) (rc_ : gR), (f_X5_bestEvery_L25 r p0 p1 n x3 x4 x5 rc_).1 ∈ [0, 1, 3]
  | 0, _, _, _, _ => (show (0 : Nat) ∈ [0, 1, 3] by decide)
  | n + 1, x3, x4, x5, rc_ => by
    rw [f_X5_bestEvery_L25_s]
    refine gIf_i (P := fun z : Nat × Int32 × gR => z.1 ∈ [0, 1, 3]) (fun c1 => ?_) (fun c1 => ?_)
    · exact (show (0 : Nat) ∈ [0, 1, 3] by decide)
    · refine gLet_i (P := fun z : Nat × Int32 × gR => z.1 ∈ [0, 1, 3]) (fun q5 eq5 => ?_)
      refine gIf_i (P := fun z : Nat × Int32 × gR => z.1 ∈ [0, 1, 3]) (fun c2 => ?_) (fun c2 => ?_)
      · exact cd_X5_bestEvery_L25 _ _ _ _ _ _ _ _
      · exact cd_X5_bestEvery_L25 _ _ _ _ _ _ _ _
theorem cd_X5_bestEvery (r : gR) (rc : gR) (p0 : Int32) (p1 : Int32) : (f_X5_bestEvery r rc p0 p1).1 ∈ [0, 1, 3] := by
  rw [f_X5_bestEvery_s]
  refine gLet_i (P := fun z : Nat × Int32 × gR => z.1 ∈ [0, 1, 3]) (fun n7 en7 => ?_)
  refine gIf_i (P := fun z : Nat × Int32 × gR => z.1 ∈ [0, 1, 3]) (fun c1 => ?_) (fun c1 => ?_)
  · refine gLet_i (P := fun z : Nat × Int32 × gR => z.1 ∈ [0, 1, 3]) (fun n12 en12 => ?_)
    refine gIf_i (P := fun z : Nat × Int32 × gR => z.1 ∈ [0, 1, 3]) (fun c2 => ?_) (fun c2 => ?_)
    · refine gLet_i (P := fun z : Nat × Int32 × gR => z.1 ∈ [0, 1, 3]) (fun q20 eq20 => ?_)
      exact cd_X5_bestEvery_L25 _ _ _ _ _ _ _ _
    · exact cd_sub (a := [0, 1]) (by decide) (by rw [← en12]; exact cd_X5_requireHammered _)
  · exact cd_sub (a := [0, 3]) (by decide) (by rw [← en7]; exact cd_X5_requireLine _ _)
theorem cd_X5_movesTo (r : gR) (p0 : Int32) : (f_X5_movesTo r p0).1 ∈ [0, 3] := by
  rw [f_X5_movesTo_s]
  refine gLet_i (P := fun z : Nat × Int32 => z.1 ∈ [0, 3]) (fun n1 en1 => ?_)
  refine gIf_i (P := fun z : Nat × Int32 => z.1 ∈ [0, 3]) (fun c1 => ?_) (fun c1 => ?_)
  · refine gLet_i (P := fun z : Nat × Int32 => z.1 ∈ [0, 3]) (fun v7 ev7 => ?_)
    exact (show (0 : Nat) ∈ [0, 3] by decide)
  · exact cd_sub (a := [0, 3]) (by decide) (by rw [← en1]; exact cd_X5_requireLine _ _)
theorem cd_X5_placeBehind (r : gR) (p0 : Int32) (p1 : Int32) : (f_X5_placeBehind r p0 p1).1 ∈ [0, 1, 3] := by
  rw [f_X5_placeBehind_s]
  refine gLet_i (P := fun z : Nat × Int32 => z.1 ∈ [0, 1, 3]) (fun n1 en1 => ?_)
  refine gIf_i (P := fun z : Nat × Int32 => z.1 ∈ [0, 1, 3]) (fun c1 => ?_) (fun c1 => ?_)
  · refine gIf_i (P := fun z : Nat × Int32 => z.1 ∈ [0, 1, 3]) (fun c2 => ?_) (fun c2 => ?_)
    · exact (show (1 : Nat) ∈ [0, 1, 3] by decide)
    · refine gIf_i (P := fun z : Nat × Int32 => z.1 ∈ [0, 1, 3]) (fun c3 => ?_) (fun c3 => ?_)
      · refine gLet_i (P := fun z : Nat × Int32 => z.1 ∈ [0, 1, 3]) (fun v10 ev10 => ?_)
        exact (show (0 : Nat) ∈ [0, 1, 3] by decide)
      · exact (show (1 : Nat) ∈ [0, 1, 3] by decide)
  · exact cd_sub (a := [0, 3]) (by decide) (by rw [← en1]; exact cd_X5_requireLine _ _)
theorem cd_X5_runScript_L60 (p0 : Int32) (p1 : Int64) : ∀ (n : Nat) (x4 : Int32) (rc_ : gR), (f_X5_runScript_L60 p0 p1 n x4 rc_).1 ∈ [0, 1]
  | 0, _, _ => (show (0 : Nat) ∈ [0, 1] by decide)
  | n + 1, x4, rc_ => by
    rw [f_X5_runScript_L60_s]
    refine gIf_i (P := fun z : Nat × Int32 × gR => z.1 ∈ [0, 1]) (fun c1 => ?_) (fun c1 => ?_)
    · exact (show (0 : Nat) ∈ [0, 1] by decide)
    · refine gLet_i (P := fun z : Nat × Int32 × gR => z.1 ∈ [0, 1]) (fun v3 ev3 => ?_)
      refine gLet_i (P := fun z : Nat × Int32 × gR => z.1 ∈ [0, 1]) (fun v4 ev4 => ?_)
      refine gLet_i (P := fun z : Nat × Int32 × gR => z.1 ∈ [0, 1]) (fun v5 ev5 => ?_)
      refine gLet_i (P := fun z : Nat × Int32 × gR => z.1 ∈ [0, 1]) (fun q9 eq9 => ?_)
      refine gIf_i (P := fun z : Nat × Int32 × gR => z.1 ∈ [0, 1]) (fun c2 => ?_) (fun c2 => ?_)
      · exact (show (0 : Nat) ∈ [0, 1] by decide)
      · exact cd_X5_runScript_L60 _ _ _ _ _
theorem cd_X5_runScript (r : gR) (rc : gR) (p0 : Int32) (p1 : Int64) : (f_X5_runScript r rc p0 p1).1 ∈ [0, 1] := by
  rw [f_X5_runScript_s]
  refine gIf_i (P := fun z : Nat × Int32 × gR => z.1 ∈ [0, 1]) (fun c1 => ?_) (fun c1 => ?_)
  · exact (show (1 : Nat) ∈ [0, 1] by decide)
  · refine gIf_i (P := fun z : Nat × Int32 × gR => z.1 ∈ [0, 1]) (fun c2 => ?_) (fun c2 => ?_)
    · refine gIf_i (P := fun z : Nat × Int32 × gR => z.1 ∈ [0, 1]) (fun c3 => ?_) (fun c3 => ?_)
      · exact (show (1 : Nat) ∈ [0, 1] by decide)
      · refine gLet_i (P := fun z : Nat × Int32 × gR => z.1 ∈ [0, 1]) (fun v17 ev17 => ?_)
        refine gIf_i (P := fun z : Nat × Int32 × gR => z.1 ∈ [0, 1]) (fun c4 => ?_) (fun c4 => ?_)
        · exact cd_X5_runScript_L60 _ _ _ _ _
        · exact (show (1 : Nat) ∈ [0, 1] by decide)
    · exact (show (1 : Nat) ∈ [0, 1] by decide)
theorem cd_X5_simulate (r : gR) (rc : gR) (p0 : Int64) (p1 : Int32) : (f_X5_simulate r rc p0 p1).1 ∈ [0, 1] := by
  rw [f_X5_simulate_s]
  refine gIf_i (P := fun z : Nat × Int32 × gR => z.1 ∈ [0, 1]) (fun c1 => ?_) (fun c1 => ?_)
  · exact (show (1 : Nat) ∈ [0, 1] by decide)
  · refine gIf_i (P := fun z : Nat × Int32 × gR => z.1 ∈ [0, 1]) (fun c2 => ?_) (fun c2 => ?_)
    · refine gLet_i (P := fun z : Nat × Int32 × gR => z.1 ∈ [0, 1]) (fun v5 ev5 => ?_)
      refine gIf_i (P := fun z : Nat × Int32 × gR => z.1 ∈ [0, 1]) (fun c3 => ?_) (fun c3 => ?_)
      · exact (show (0 : Nat) ∈ [0, 1] by decide)
      · refine gLet_i (P := fun z : Nat × Int32 × gR => z.1 ∈ [0, 1]) (fun u10 eu10 => ?_)
        refine gLet_i (P := fun z : Nat × Int32 × gR => z.1 ∈ [0, 1]) (fun v12 ev12 => ?_)
        exact (show (0 : Nat) ∈ [0, 1] by decide)
    · exact (show (1 : Nat) ∈ [0, 1] by decide)
theorem cd_X5_requireSlot (p0 : Int32) : (f_X5_requireSlot p0) ∈ [0, 3] := by
  rw [f_X5_requireSlot_s]
  refine gLet_i (P := fun z : Nat => z ∈ [0, 3]) (fun v2 ev2 => ?_)
  refine gIf_i (P := fun z : Nat => z ∈ [0, 3]) (fun c1 => ?_) (fun c1 => ?_)
  · exact (show (3 : Nat) ∈ [0, 3] by decide)
  · exact (show (0 : Nat) ∈ [0, 3] by decide)
theorem cd_X5_save (tn : Int32) (tf : Nat → Int32) (r : gR) (rc : gR) (qz : Int32) (qn : Int32) (hq : Nat → Option gR) (lq : Nat → Option gR) (lfl : Nat → Int32) (p0 : Int32) : (f_X5_save tn tf r rc qz qn hq lq lfl p0).1 ∈ [0, 3] := by
  rw [f_X5_save_s]
  refine gLet_i (P := fun z : Nat × Int32 × (Nat → Option gR) × (Nat → Int32) => z.1 ∈ [0, 3]) (fun n1 en1 => ?_)
  refine gIf_i (P := fun z : Nat × Int32 × (Nat → Option gR) × (Nat → Int32) => z.1 ∈ [0, 3]) (fun c1 => ?_) (fun c1 => ?_)
  · refine gLet_i (P := fun z : Nat × Int32 × (Nat → Option gR) × (Nat → Int32) => z.1 ∈ [0, 3]) (fun u7 eu7 => ?_)
    exact (show (0 : Nat) ∈ [0, 3] by decide)
  · exact cd_sub (a := [0, 3]) (by decide) (by rw [← en1]; exact cd_X5_requireSlot _)
theorem cd_X5_restore (tn : Int32) (tf : Nat → Int32) (r : gR) (rc : gR) (qz : Int32) (qn : Int32) (hq : Nat → Option gR) (lq : Nat → Option gR) (lfl : Nat → Int32) (p0 : Int32) : (f_X5_restore tn tf r rc qz qn hq lq lfl p0).1 ∈ [0, 2, 3] := by
  rw [f_X5_restore_s]
  refine gLet_i (P := fun z : Nat × Int32 × gR × Int32 => z.1 ∈ [0, 2, 3]) (fun n1 en1 => ?_)
  refine gIf_i (P := fun z : Nat × Int32 × gR × Int32 => z.1 ∈ [0, 2, 3]) (fun c1 => ?_) (fun c1 => ?_)
  · refine gLet_i (P := fun z : Nat × Int32 × gR × Int32 => z.1 ∈ [0, 2, 3]) (fun q11 eq11 => ?_)
    refine gIf_i (P := fun z : Nat × Int32 × gR × Int32 => z.1 ∈ [0, 2, 3]) (fun c2 => ?_) (fun c2 => ?_)
    · exact (show (2 : Nat) ∈ [0, 2, 3] by decide)
    · refine gLet_i (P := fun z : Nat × Int32 × gR × Int32 => z.1 ∈ [0, 2, 3]) (fun u15 eu15 => ?_)
      exact (show (0 : Nat) ∈ [0, 2, 3] by decide)
  · exact cd_sub (a := [0, 3]) (by decide) (by rw [← en1]; exact cd_X5_requireSlot _)

def f_L_tryAppend (tn : Int32) (tf : Nat → Int32) (p1 : Int32) : Int32 × Int32 × (Nat → Int32) :=
    gLet (f_X5_append tn tf p1) (fun (q1 : Nat × Int32 × Int32 × (Nat → Int32)) =>
    if q1.1 = 0 then
      (q1.2.1, q1.2.2.1, q1.2.2.2)
    else
      if q1.1 = 1 then
        ((-9999002), q1.2.2.1, q1.2.2.2)
      else
        ((-9999003), q1.2.2.1, q1.2.2.2))
theorem f_L_tryAppend_s (tn : Int32) (tf : Nat → Int32) (p1 : Int32) : f_L_tryAppend tn tf p1 =
    (gLet (f_X5_append tn tf p1) (fun (q1 : Nat × Int32 × Int32 × (Nat → Int32)) =>
    if q1.1 = 0 then
      (q1.2.1, q1.2.2.1, q1.2.2.2)
    else
      if q1.1 = 1 then
        ((-9999002), q1.2.2.1, q1.2.2.2)
      else
        ((-9999003), q1.2.2.1, q1.2.2.2))) := rfl
theorem hd_L_tryAppend : yL_tryAppend.cls ≠ "java/lang/invoke/MethodHandle" ∧ yL_tryAppend.cls ≠ "java/lang/invoke/VarHandle" ∧ (parseMethodDescriptor yL_tryAppend.desc).map (fun d => d.parameters.length) = some 2 := by decide +kernel
set_option maxHeartbeats 4000000 in
set_option maxRecDepth 100000 in
theorem c_L_tryAppend (l : Launch) (hst : l.stackTraces = false) (D : va_G) (y : Nat → ClassId) (a0 a1 a2 a3 a4 a5 a6 : Nat) (zh : Nat) (tn : Int32) (tf : Nat → Int32) (p1 : Int32) (ht : okT tn tf) : Met l yL_tryAppend wsL_tryAppend ({ frames := 7, cells := 2, slots := 12, locals := 103 }) (lP D y [.ref a0, .int p1] zh [(a0, .inr (4, [.ref a1, .ref a2, .ref a3, .ref a4, .ref a5])), (a1, .inr (3, [.ref a6, .int tn])), (a6, .inl (y 1, 120, .inl tf))]) (va_Qi (fun (v : Int32) (u : Int32 × (Nat → Int32)) => f_L_tryAppend tn tf p1 = (v, u)) (fun (u : Int32 × (Nat → Int32)) t => va_P D vwCl [(a0, .inr (4, [.ref a1, .ref a2, .ref a3, .ref a4, .ref a5])), (a1, .inr (3, [.ref a6, .int u.1])), (a6, .inl (y 1, 120, .inl u.2))] t.heap ∧ va_D (va_A [(a0, .inr (4, [.ref a1, .ref a2, .ref a3, .ref a4, .ref a5])), (a1, .inr (3, [.ref a6, .int tn])), (a6, .inl (y 1, 120, .inl tf))] zh) [(a0, .inr (4, [.ref a1, .ref a2, .ref a3, .ref a4, .ref a5])), (a1, .inr (3, [.ref a6, .int u.1])), (a6, .inl (y 1, 120, .inl u.2))]) (va_A [(a0, .inr (4, [.ref a1, .ref a2, .ref a3, .ref a4, .ref a5])), (a1, .inr (3, [.ref a6, .int tn])), (a6, .inl (y 1, 120, .inl tf))] zh)) 2 12 (va_A [(a0, .inr (4, [.ref a1, .ref a2, .ref a3, .ref a4, .ref a5])), (a1, .inr (3, [.ref a6, .int tn])), (a6, .inl (y 1, 120, .inl tf))] zh) := by
  refine xL_of (vx_ofWH (cc := cL_tryAppend) (maxL := 3) (ret := (some .int)) (hh := [(0, 5, 6, 13), (0, 5, 10, 24)]) (by decide) rfl ?_)
  intro p e s m args below meth c s₁ B hml hv
  obtain ⟨⟨⟨rfl, hsz, hP, hE, hD⟩, hXE, hXZ⟩, hLN⟩ := hv
  have hx := B.exec
  have hb := B.bytes
  have hr := B.returns
  have hts := atoms_spec (ws := wsL_tryAppend) B.pre
  have hown : s.vm.findClass RL = some m.cls := findClass_of_methodNamed B.named
  have hlocks := B.notSynchronized
  have htab := vx_table (x := yL_tryAppend) B (hts _ List.mem_cons_self)
  have w_0 := hts (.classLink RL 13 "java/lang/IllegalArgumentException") (List.mem_cons_of_mem _ (List.mem_append_left _ (List.mem_append_left _ (List.mem_append_left _ (List.mem_append_left _ (List.mem_append_left _ (List.mem_of_getElem? (i := 0) rfl)))))))
  have w_1 := hts (.classLink RL 24 "java/lang/IllegalStateException") (List.mem_cons_of_mem _ (List.mem_append_left _ (List.mem_append_left _ (List.mem_append_left _ (List.mem_append_left _ (List.mem_append_left _ (List.mem_of_getElem? (i := 1) rfl)))))))
  have w_2 := hts (.constant RL 15 (-9999002)) (List.mem_cons_of_mem _ (List.mem_append_left _ (List.mem_append_left _ (List.mem_append_left _ (List.mem_append_left _ (List.mem_append_left _ (List.mem_of_getElem? (i := 2) rfl)))))))
  have w_3 := hts (.constant RL 26 (-9999003)) (List.mem_cons_of_mem _ (List.mem_append_left _ (List.mem_append_left _ (List.mem_append_left _ (List.mem_append_left _ (List.mem_append_left _ (List.mem_of_getElem? (i := 3) rfl)))))))
  subst hsz
  have hD := hD.self (sz := s.heap.size)
  generalize hAe : va_A [(a0, .inr (4, [.ref a1, .ref a2, .ref a3, .ref a4, .ref a5])), (a1, .inr (3, [.ref a6, .int tn])), (a6, .inl (y 1, 120, .inl tf))] s.heap.size = A at hD hXZ ⊢
  have hA : ∀ q : Nat, s.heap.size ≤ q → A q := fun q h => by rw [← hAe]; exact Or.inr h
  have hS : va_S A s.heap s.heap [] := va_S.rf
  have hl := lv_entry ([.ref a0, .int p1]) (n := 3) (Nat.le_of_ble_eq_true rfl)
  rw [lg_entry_eq]
  generalize (lg_sl ([.ref a0, .int p1]) ++ List.replicate (3 - (lg_sl ([.ref a0, .int p1])).length) Slot.unset).toArray = ls at hl ⊢
  have hl : lv_has ls 3 [(0, .ref a0), (1, .int p1)] := hl
  have hF := f_L_tryAppend_s tn tf p1
  refine lv_aload_n hx hb dL_tryAppend_0 rfl (lv_at hl 0 rfl) ?_
  refine lv_iload_n hx hb dL_tryAppend_1 rfl (lv_at hl 1 rfl) ?_
  obtain ⟨q1, eq1⟩ : ∃ z : Nat × Int32 × Int32 × (Nat → Int32), f_X5_append tn tf p1 = z := ⟨_, rfl⟩
  have hF := hF.trans (gLet_e eq1)
  refine xq_calli (vx_runV (As := [.int p1]) (rest := []) ⟨hx, hb, hml, hown, hts⟩ (c_X5_append l hst D y a0 a1 a2 a3 a4 a5 a6 s.heap.size tn tf p1 ht) (cwV 1 hts gL_tryAppend_X5_append rfl rfl rfl hd_X5_append ⟨Nat.le_of_ble_eq_true rfl, Nat.le_of_ble_eq_true rfl⟩) (xV (q := (RX5, TX5, 5)) hE hXE hXZ hS hA hP hD 0 rfl rfl) rfl rfl hl.1 rfl (lv_room (Nat.le_of_ble_eq_true rfl)) dL_tryAppend_2 ⟨Nat.le_of_ble_eq_true rfl, Nat.le_of_ble_eq_true rfl⟩) hP hD hS hA [0, 1, 2] rfl (by decide) (fun _ => rfl) (fun E5 ce6 a97 u3 H locs h4 hP hD hS h4a h4b h4c => ?_) (fun v2 u3 H locs h4 hP hD hS => ?_)
  · have h4q : q1.1 = xc E5 := by rw [← eq1, h4.1]
    obtain rfl : q1.2.2 = u3 := by rw [← eq1, h4.1]
    have hP : va_P D vwCl [(a0, .inr (4, [.ref a1, .ref a2, .ref a3, .ref a4, .ref a5])), (a1, .inr (3, [.ref a6, .int q1.2.2.1])), (a6, .inl (y 1, 120, .inl q1.2.2.2))] H := hP
    have hD : va_D A [(a0, .inr (4, [.ref a1, .ref a2, .ref a3, .ref a4, .ref a5])), (a1, .inr (3, [.ref a6, .int q1.2.2.1])), (a6, .inl (y 1, 120, .inl q1.2.2.2))] := hD
    rcases xc_E h4.2 with rfl | rfl | rfl
    · rw [xc_IA] at h4q
      have hF := hF.trans (if_neg (show ¬ q1.1 = 0 by rw [h4q]; decide))
      have hF := hF.trans (if_pos h4q)
      refine vx_catch hown (tableOf []) ⟨0, 5, 6, 13⟩ (tableOf [(0, 5, 10, 24)]) (htab.trans rfl) (fun z hz => nomatch hz) (by decide) (by decide) w_0 (hXE.1.1.1.use rfl) h4a h4b h4c ?_
      refine W.eq (g2 := F0 m 6 ls [.ref a97]) rfl ?_
      refine lv_astore_n (lv' := [(2, .ref a97), (0, .ref a0), (1, .int p1)]) hx hb dL_tryAppend_6 rfl hl (by decide) rfl (fun ls hl => ?_)
      refine lv_ldc (v := (-9999002)) hx hb hown w_2 dL_tryAppend_7 ?_
      refine W.widen (k := 2) (n := 12) (Nat.le_of_ble_eq_true rfl) (Nat.le_of_ble_eq_true rfl) ?_
      refine vx_ret ?_
      exact W.iret (v := (-9999002)) hx hb hr (fun t ht hW => ⟨⟨(-9999002), ⟨q1.2.2.1, q1.2.2.2⟩, rfl, hF, ⟨by rw [ht]; exact hP, hD⟩⟩, hS.F ht⟩) hS.2.2 dL_tryAppend_9
    · rw [xc_IS] at h4q
      have hF := hF.trans (if_neg (show ¬ q1.1 = 0 by rw [h4q]; decide))
      have hF := hF.trans (if_neg (show ¬ q1.1 = 1 by rw [h4q]; decide))
      refine vx_catch hown (tableOf [(0, 5, 6, 13)]) ⟨0, 5, 10, 24⟩ (tableOf []) (htab.trans rfl) (fun z hz => by simp only [tableOf, List.map_cons, List.map_nil, List.mem_cons, List.not_mem_nil, or_false] at hz; rcases hz with rfl; exact Or.inr ⟨by decide, _, w_0, hLN.2.1.1⟩) (by decide) (by decide) w_1 (hXE.1.1.2.1.use rfl) h4a h4b h4c ?_
      refine W.eq (g2 := F0 m 10 ls [.ref a97]) rfl ?_
      refine lv_astore_n (lv' := [(2, .ref a97), (0, .ref a0), (1, .int p1)]) hx hb dL_tryAppend_10 rfl hl (by decide) rfl (fun ls hl => ?_)
      refine lv_ldc (v := (-9999003)) hx hb hown w_3 dL_tryAppend_11 ?_
      refine W.widen (k := 2) (n := 12) (Nat.le_of_ble_eq_true rfl) (Nat.le_of_ble_eq_true rfl) ?_
      refine vx_ret ?_
      exact W.iret (v := (-9999003)) hx hb hr (fun t ht hW => ⟨⟨(-9999003), ⟨q1.2.2.1, q1.2.2.2⟩, rfl, hF, ⟨by rw [ht]; exact hP, hD⟩⟩, hS.F ht⟩) hS.2.2 dL_tryAppend_13
    · rw [xc_IO] at h4q
      have hc := cd_X5_append tn tf p1
      rw [eq1, h4q] at hc
      exact absurd hc (by decide)
  · have h4q : q1.1 = 0 := by rw [← eq1, h4]
    obtain ⟨rfl, rfl⟩ : q1.2.1 = v2 ∧ q1.2.2 = u3 := ⟨by rw [← eq1, h4], by rw [← eq1, h4]⟩
    have hP : va_P D vwCl [(a0, .inr (4, [.ref a1, .ref a2, .ref a3, .ref a4, .ref a5])), (a1, .inr (3, [.ref a6, .int q1.2.2.1])), (a6, .inl (y 1, 120, .inl q1.2.2.2))] H := hP
    have hD : va_D A [(a0, .inr (4, [.ref a1, .ref a2, .ref a3, .ref a4, .ref a5])), (a1, .inr (3, [.ref a6, .int q1.2.2.1])), (a6, .inl (y 1, 120, .inl q1.2.2.2))] := hD
    have hF := hF.trans (if_pos h4q)
    refine W.widen (k := 2) (n := 12) (Nat.le_of_ble_eq_true rfl) (Nat.le_of_ble_eq_true rfl) ?_
    refine vx_ret ?_
    exact W.iret (v := q1.2.1) hx hb hr (fun t ht hW => ⟨⟨q1.2.1, ⟨q1.2.2.1, q1.2.2.2⟩, rfl, hF, ⟨by rw [ht]; exact hP, hD⟩⟩, hS.F ht⟩) hS.2.2 dL_tryAppend_5

def f_L_tryLoad (tn : Int32) (tf : Nat → Int32) (r : gR) (qz : Int32) (qn : Int32) (lfl : Nat → Int32) : Int32 × gR × Int32 × (Nat → Int32) :=
    gLet (f_X5_load tn tf r qz qn lfl) (fun (q1 : Nat × Int32 × gR × Int32 × (Nat → Int32)) =>
    if q1.1 = 0 then
      (q1.2.1, q1.2.2.1, q1.2.2.2.1, q1.2.2.2.2)
    else
      ((-9999003), q1.2.2.1, q1.2.2.2.1, q1.2.2.2.2))
theorem f_L_tryLoad_s (tn : Int32) (tf : Nat → Int32) (r : gR) (qz : Int32) (qn : Int32) (lfl : Nat → Int32) : f_L_tryLoad tn tf r qz qn lfl =
    (gLet (f_X5_load tn tf r qz qn lfl) (fun (q1 : Nat × Int32 × gR × Int32 × (Nat → Int32)) =>
    if q1.1 = 0 then
      (q1.2.1, q1.2.2.1, q1.2.2.2.1, q1.2.2.2.2)
    else
      ((-9999003), q1.2.2.1, q1.2.2.2.1, q1.2.2.2.2))) := rfl
theorem hd_L_tryLoad : yL_tryLoad.cls ≠ "java/lang/invoke/MethodHandle" ∧ yL_tryLoad.cls ≠ "java/lang/invoke/VarHandle" ∧ (parseMethodDescriptor yL_tryLoad.desc).map (fun d => d.parameters.length) = some 1 := by decide +kernel
set_option maxHeartbeats 4000000 in
set_option maxRecDepth 100000 in
theorem c_L_tryLoad (l : Launch) (hst : l.stackTraces = false) (D : va_G) (y : Nat → ClassId) (a0 a1 a2 a3 a4 a5 a6 a7 a8 a9 a10 a11 : Nat) (zh : Nat) (tn : Int32) (tf : Nat → Int32) (r : gR) (qz : Int32) (qn : Int32) (lfl : Nat → Int32) (ht : okT tn tf) (ho : okC r) : Met l yL_tryLoad wsL_tryLoad ({ frames := 7, cells := 2, slots := 12, locals := 157 }) (lP D y [.ref a0] zh [(a0, .inr (4, [.ref a1, .ref a2, .ref a3, .ref a4, .ref a5])), (a1, .inr (3, [.ref a6, .int tn])), (a6, .inl (y 1, 120, .inl tf)), (a2, soF a7 a8 r), (a7, soV y r), (a8, soW y r), (a4, .inr (0, [.ref a9, .int qz, .int qn])), (a5, .inr (1, [.ref a10, .ref a11])), (a11, .inl (y 2, 2, .inl lfl))]) (va_Qi (fun (v : Int32) (u : gR × Int32 × (Nat → Int32)) => f_L_tryLoad tn tf r qz qn lfl = (v, u)) (fun (u : gR × Int32 × (Nat → Int32)) t => va_P D vwCl [(a0, .inr (4, [.ref a1, .ref a2, .ref a3, .ref a4, .ref a5])), (a1, .inr (3, [.ref a6, .int tn])), (a6, .inl (y 1, 120, .inl tf)), (a2, soF a7 a8 u.1), (a7, soV y u.1), (a8, soW y u.1), (a4, .inr (0, [.ref a9, .int u.2.1, .int qn])), (a5, .inr (1, [.ref a10, .ref a11])), (a11, .inl (y 2, 2, .inl u.2.2))] t.heap ∧ va_D (va_A [(a0, .inr (4, [.ref a1, .ref a2, .ref a3, .ref a4, .ref a5])), (a1, .inr (3, [.ref a6, .int tn])), (a6, .inl (y 1, 120, .inl tf)), (a2, soF a7 a8 r), (a7, soV y r), (a8, soW y r), (a4, .inr (0, [.ref a9, .int qz, .int qn])), (a5, .inr (1, [.ref a10, .ref a11])), (a11, .inl (y 2, 2, .inl lfl))] zh) [(a0, .inr (4, [.ref a1, .ref a2, .ref a3, .ref a4, .ref a5])), (a1, .inr (3, [.ref a6, .int tn])), (a6, .inl (y 1, 120, .inl tf)), (a2, soF a7 a8 u.1), (a7, soV y u.1), (a8, soW y u.1), (a4, .inr (0, [.ref a9, .int u.2.1, .int qn])), (a5, .inr (1, [.ref a10, .ref a11])), (a11, .inl (y 2, 2, .inl u.2.2))]) (va_A [(a0, .inr (4, [.ref a1, .ref a2, .ref a3, .ref a4, .ref a5])), (a1, .inr (3, [.ref a6, .int tn])), (a6, .inl (y 1, 120, .inl tf)), (a2, soF a7 a8 r), (a7, soV y r), (a8, soW y r), (a4, .inr (0, [.ref a9, .int qz, .int qn])), (a5, .inr (1, [.ref a10, .ref a11])), (a11, .inl (y 2, 2, .inl lfl))] zh)) 2 12 (va_A [(a0, .inr (4, [.ref a1, .ref a2, .ref a3, .ref a4, .ref a5])), (a1, .inr (3, [.ref a6, .int tn])), (a6, .inl (y 1, 120, .inl tf)), (a2, soF a7 a8 r), (a7, soV y r), (a8, soW y r), (a4, .inr (0, [.ref a9, .int qz, .int qn])), (a5, .inr (1, [.ref a10, .ref a11])), (a11, .inl (y 2, 2, .inl lfl))] zh) := by
  refine xL_of (vx_ofWH (cc := cL_tryLoad) (maxL := 2) (ret := (some .int)) (hh := [(0, 4, 5, 24)]) (by decide) rfl ?_)
  intro p e s m args below meth c s₁ B hml hv
  obtain ⟨⟨⟨rfl, hsz, hP, hE, hD⟩, hXE, hXZ⟩, hLN⟩ := hv
  have hx := B.exec
  have hb := B.bytes
  have hr := B.returns
  have hts := atoms_spec (ws := wsL_tryLoad) B.pre
  have hown : s.vm.findClass RL = some m.cls := findClass_of_methodNamed B.named
  have hlocks := B.notSynchronized
  have htab := vx_table (x := yL_tryLoad) B (hts _ List.mem_cons_self)
  have w_0 := hts (.classLink RL 24 "java/lang/IllegalStateException") (List.mem_cons_of_mem _ (List.mem_append_left _ (List.mem_append_left _ (List.mem_append_left _ (List.mem_append_left _ (List.mem_append_left _ (List.mem_append_left _ (List.mem_append_left _ (List.mem_of_getElem? (i := 0) rfl)))))))))
  have w_1 := hts (.constant RL 26 (-9999003)) (List.mem_cons_of_mem _ (List.mem_append_left _ (List.mem_append_left _ (List.mem_append_left _ (List.mem_append_left _ (List.mem_append_left _ (List.mem_append_left _ (List.mem_append_left _ (List.mem_of_getElem? (i := 1) rfl)))))))))
  subst hsz
  have hD := hD.self (sz := s.heap.size)
  generalize hAe : va_A [(a0, .inr (4, [.ref a1, .ref a2, .ref a3, .ref a4, .ref a5])), (a1, .inr (3, [.ref a6, .int tn])), (a6, .inl (y 1, 120, .inl tf)), (a2, soF a7 a8 r), (a7, soV y r), (a8, soW y r), (a4, .inr (0, [.ref a9, .int qz, .int qn])), (a5, .inr (1, [.ref a10, .ref a11])), (a11, .inl (y 2, 2, .inl lfl))] s.heap.size = A at hD hXZ ⊢
  have hA : ∀ q : Nat, s.heap.size ≤ q → A q := fun q h => by rw [← hAe]; exact Or.inr h
  have hS : va_S A s.heap s.heap [] := va_S.rf
  have hl := lv_entry ([.ref a0]) (n := 2) (Nat.le_of_ble_eq_true rfl)
  rw [lg_entry_eq]
  generalize (lg_sl ([.ref a0]) ++ List.replicate (2 - (lg_sl ([.ref a0])).length) Slot.unset).toArray = ls at hl ⊢
  have hl : lv_has ls 2 [(0, .ref a0)] := hl
  have hF := f_L_tryLoad_s tn tf r qz qn lfl
  refine lv_aload_n hx hb dL_tryLoad_0 rfl (lv_at hl 0 rfl) ?_
  obtain ⟨q1, eq1⟩ : ∃ z : Nat × Int32 × gR × Int32 × (Nat → Int32), f_X5_load tn tf r qz qn lfl = z := ⟨_, rfl⟩
  have hF := hF.trans (gLet_e eq1)
  refine xq_calli (vx_runV (As := []) (rest := []) ⟨hx, hb, hml, hown, hts⟩ (c_X5_load l hst D y a0 a1 a2 a3 a4 a5 a6 a7 a8 a9 a10 a11 s.heap.size tn tf r qz qn lfl ht ho) (cwV 0 hts gL_tryLoad_X5_load rfl rfl rfl hd_X5_load ⟨Nat.le_of_ble_eq_true rfl, Nat.le_of_ble_eq_true rfl⟩) (xV (q := (RX5, TX5, 5)) hE hXE hXZ hS hA hP hD 0 rfl rfl) rfl rfl hl.1 rfl (lv_room (Nat.le_of_ble_eq_true rfl)) dL_tryLoad_1 ⟨Nat.le_of_ble_eq_true rfl, Nat.le_of_ble_eq_true rfl⟩) hP hD hS hA [0, 1, 2, 3, 4, 5, 6, 7, 8] rfl (by decide) (fun _ => rfl) (fun E5 ce6 a97 u3 H locs h4 hP hD hS h4a h4b h4c => ?_) (fun v2 u3 H locs h4 hP hD hS => ?_)
  · have h4q : q1.1 = xc E5 := by rw [← eq1, h4.1]
    obtain rfl : q1.2.2 = u3 := by rw [← eq1, h4.1]
    have hP : va_P D vwCl [(a0, .inr (4, [.ref a1, .ref a2, .ref a3, .ref a4, .ref a5])), (a1, .inr (3, [.ref a6, .int tn])), (a6, .inl (y 1, 120, .inl tf)), (a2, soF a7 a8 q1.2.2.1), (a7, soV y q1.2.2.1), (a8, soW y q1.2.2.1), (a4, .inr (0, [.ref a9, .int q1.2.2.2.1, .int qn])), (a5, .inr (1, [.ref a10, .ref a11])), (a11, .inl (y 2, 2, .inl q1.2.2.2.2))] H := hP
    have hD : va_D A [(a0, .inr (4, [.ref a1, .ref a2, .ref a3, .ref a4, .ref a5])), (a1, .inr (3, [.ref a6, .int tn])), (a6, .inl (y 1, 120, .inl tf)), (a2, soF a7 a8 q1.2.2.1), (a7, soV y q1.2.2.1), (a8, soW y q1.2.2.1), (a4, .inr (0, [.ref a9, .int q1.2.2.2.1, .int qn])), (a5, .inr (1, [.ref a10, .ref a11])), (a11, .inl (y 2, 2, .inl q1.2.2.2.2))] := hD
    rcases xc_E h4.2 with rfl | rfl | rfl
    · rw [xc_IA] at h4q
      have hc := cd_X5_load tn tf r qz qn lfl
      rw [eq1, h4q] at hc
      exact absurd hc (by decide)
    · rw [xc_IS] at h4q
      have hF := hF.trans (if_neg (show ¬ q1.1 = 0 by rw [h4q]; decide))
      refine vx_catch hown (tableOf []) ⟨0, 4, 5, 24⟩ (tableOf []) (htab.trans rfl) (fun z hz => nomatch hz) (by decide) (by decide) w_0 (hXE.1.1.2.1.use rfl) h4a h4b h4c ?_
      refine W.eq (g2 := F0 m 5 ls [.ref a97]) rfl ?_
      refine lv_astore_n (lv' := [(1, .ref a97), (0, .ref a0)]) hx hb dL_tryLoad_5 rfl hl (by decide) rfl (fun ls hl => ?_)
      refine lv_ldc (v := (-9999003)) hx hb hown w_1 dL_tryLoad_6 ?_
      refine W.widen (k := 2) (n := 12) (Nat.le_of_ble_eq_true rfl) (Nat.le_of_ble_eq_true rfl) ?_
      refine vx_ret ?_
      exact W.iret (v := (-9999003)) hx hb hr (fun t ht hW => ⟨⟨(-9999003), ⟨q1.2.2.1, q1.2.2.2.1, q1.2.2.2.2⟩, rfl, hF, ⟨by rw [ht]; exact hP, hD⟩⟩, hS.F ht⟩) hS.2.2 dL_tryLoad_8
    · rw [xc_IO] at h4q
      have hc := cd_X5_load tn tf r qz qn lfl
      rw [eq1, h4q] at hc
      exact absurd hc (by decide)
  · have h4q : q1.1 = 0 := by rw [← eq1, h4]
    obtain ⟨rfl, rfl⟩ : q1.2.1 = v2 ∧ q1.2.2 = u3 := ⟨by rw [← eq1, h4], by rw [← eq1, h4]⟩
    have hP : va_P D vwCl [(a0, .inr (4, [.ref a1, .ref a2, .ref a3, .ref a4, .ref a5])), (a1, .inr (3, [.ref a6, .int tn])), (a6, .inl (y 1, 120, .inl tf)), (a2, soF a7 a8 q1.2.2.1), (a7, soV y q1.2.2.1), (a8, soW y q1.2.2.1), (a4, .inr (0, [.ref a9, .int q1.2.2.2.1, .int qn])), (a5, .inr (1, [.ref a10, .ref a11])), (a11, .inl (y 2, 2, .inl q1.2.2.2.2))] H := hP
    have hD : va_D A [(a0, .inr (4, [.ref a1, .ref a2, .ref a3, .ref a4, .ref a5])), (a1, .inr (3, [.ref a6, .int tn])), (a6, .inl (y 1, 120, .inl tf)), (a2, soF a7 a8 q1.2.2.1), (a7, soV y q1.2.2.1), (a8, soW y q1.2.2.1), (a4, .inr (0, [.ref a9, .int q1.2.2.2.1, .int qn])), (a5, .inr (1, [.ref a10, .ref a11])), (a11, .inl (y 2, 2, .inl q1.2.2.2.2))] := hD
    have hF := hF.trans (if_pos h4q)
    refine W.widen (k := 2) (n := 12) (Nat.le_of_ble_eq_true rfl) (Nat.le_of_ble_eq_true rfl) ?_
    refine vx_ret ?_
    exact W.iret (v := q1.2.1) hx hb hr (fun t ht hW => ⟨⟨q1.2.1, ⟨q1.2.2.1, q1.2.2.2.1, q1.2.2.2.2⟩, rfl, hF, ⟨by rw [ht]; exact hP, hD⟩⟩, hS.F ht⟩) hS.2.2 dL_tryLoad_4

def f_L_tryAbout (r : gR) (p1 : Int32) : Int32 :=
    gLet (f_X5_about r p1) (fun (q1 : Nat × Int32) =>
    if q1.1 = 0 then
      q1.2
    else
      (-9999002))
theorem f_L_tryAbout_s (r : gR) (p1 : Int32) : f_L_tryAbout r p1 =
    (gLet (f_X5_about r p1) (fun (q1 : Nat × Int32) =>
    if q1.1 = 0 then
      q1.2
    else
      (-9999002))) := rfl
theorem hd_L_tryAbout : yL_tryAbout.cls ≠ "java/lang/invoke/MethodHandle" ∧ yL_tryAbout.cls ≠ "java/lang/invoke/VarHandle" ∧ (parseMethodDescriptor yL_tryAbout.desc).map (fun d => d.parameters.length) = some 2 := by decide +kernel
set_option maxHeartbeats 4000000 in
set_option maxRecDepth 100000 in
theorem c_L_tryAbout (l : Launch) (hst : l.stackTraces = false) (D : va_G) (y : Nat → ClassId) (a0 a1 a2 a3 a4 a5 a6 a7 : Nat) (zh : Nat) (r : gR) (p1 : Int32) (ho : okC r) : Met l yL_tryAbout wsL_tryAbout ({ frames := 7, cells := 2, slots := 12, locals := 103 }) (lP D y [.ref a0, .int p1] zh [(a0, .inr (4, [.ref a1, .ref a2, .ref a3, .ref a4, .ref a5])), (a2, soF a6 a7 r), (a6, soV y r), (a7, soW y r)]) (va_Qi (fun (v : Int32) (u : Unit) => f_L_tryAbout r p1 = v) (fun (u : Unit) t => va_P D vwCl [(a0, .inr (4, [.ref a1, .ref a2, .ref a3, .ref a4, .ref a5])), (a2, soF a6 a7 r), (a6, soV y r), (a7, soW y r)] t.heap ∧ va_D (va_A [(a0, .inr (4, [.ref a1, .ref a2, .ref a3, .ref a4, .ref a5])), (a2, soF a6 a7 r), (a6, soV y r), (a7, soW y r)] zh) [(a0, .inr (4, [.ref a1, .ref a2, .ref a3, .ref a4, .ref a5])), (a2, soF a6 a7 r), (a6, soV y r), (a7, soW y r)]) (va_A [(a0, .inr (4, [.ref a1, .ref a2, .ref a3, .ref a4, .ref a5])), (a2, soF a6 a7 r), (a6, soV y r), (a7, soW y r)] zh)) 2 12 (va_A [(a0, .inr (4, [.ref a1, .ref a2, .ref a3, .ref a4, .ref a5])), (a2, soF a6 a7 r), (a6, soV y r), (a7, soW y r)] zh) := by
  refine xL_of (vx_ofWH (cc := cL_tryAbout) (maxL := 3) (ret := (some .int)) (hh := [(0, 5, 6, 13)]) (by decide) rfl ?_)
  intro p e s m args below meth c s₁ B hml hv
  obtain ⟨⟨⟨rfl, hsz, hP, hE, hD⟩, hXE, hXZ⟩, hLN⟩ := hv
  have hx := B.exec
  have hb := B.bytes
  have hr := B.returns
  have hts := atoms_spec (ws := wsL_tryAbout) B.pre
  have hown : s.vm.findClass RL = some m.cls := findClass_of_methodNamed B.named
  have hlocks := B.notSynchronized
  have htab := vx_table (x := yL_tryAbout) B (hts _ List.mem_cons_self)
  have w_0 := hts (.classLink RL 13 "java/lang/IllegalArgumentException") (List.mem_cons_of_mem _ (List.mem_append_left _ (List.mem_append_left _ (List.mem_append_left _ (List.mem_append_left _ (List.mem_of_getElem? (i := 0) rfl))))))
  have w_1 := hts (.constant RL 15 (-9999002)) (List.mem_cons_of_mem _ (List.mem_append_left _ (List.mem_append_left _ (List.mem_append_left _ (List.mem_append_left _ (List.mem_of_getElem? (i := 1) rfl))))))
  subst hsz
  have hD := hD.self (sz := s.heap.size)
  generalize hAe : va_A [(a0, .inr (4, [.ref a1, .ref a2, .ref a3, .ref a4, .ref a5])), (a2, soF a6 a7 r), (a6, soV y r), (a7, soW y r)] s.heap.size = A at hD hXZ ⊢
  have hA : ∀ q : Nat, s.heap.size ≤ q → A q := fun q h => by rw [← hAe]; exact Or.inr h
  have hS : va_S A s.heap s.heap [] := va_S.rf
  have hl := lv_entry ([.ref a0, .int p1]) (n := 3) (Nat.le_of_ble_eq_true rfl)
  rw [lg_entry_eq]
  generalize (lg_sl ([.ref a0, .int p1]) ++ List.replicate (3 - (lg_sl ([.ref a0, .int p1])).length) Slot.unset).toArray = ls at hl ⊢
  have hl : lv_has ls 3 [(0, .ref a0), (1, .int p1)] := hl
  have hF := f_L_tryAbout_s r p1
  refine lv_aload_n hx hb dL_tryAbout_0 rfl (lv_at hl 0 rfl) ?_
  refine lv_iload_n hx hb dL_tryAbout_1 rfl (lv_at hl 1 rfl) ?_
  obtain ⟨q1, eq1⟩ : ∃ z : Nat × Int32, f_X5_about r p1 = z := ⟨_, rfl⟩
  have hF := hF.trans (gLet_e eq1)
  refine xq_calli (vx_runV (As := [.int p1]) (rest := []) ⟨hx, hb, hml, hown, hts⟩ (c_X5_about l hst D y a0 a1 a2 a3 a4 a5 a6 a7 s.heap.size r p1 ho) (cwV 1 hts gL_tryAbout_X5_about rfl rfl rfl hd_X5_about ⟨Nat.le_of_ble_eq_true rfl, Nat.le_of_ble_eq_true rfl⟩) (xV (q := (RX5, TX5, 5)) hE hXE hXZ hS hA hP hD 0 rfl rfl) rfl rfl hl.1 rfl (lv_room (Nat.le_of_ble_eq_true rfl)) dL_tryAbout_2 ⟨Nat.le_of_ble_eq_true rfl, Nat.le_of_ble_eq_true rfl⟩) hP hD hS hA [0, 1, 2, 3] rfl (by decide) (fun _ => rfl) (fun E5 ce6 a97 u3 H locs h4 hP hD hS h4a h4b h4c => ?_) (fun v2 u3 H locs h4 hP hD hS => ?_)
  · have h4q : q1.1 = xc E5 := by rw [← eq1, h4.1]
    have hP : va_P D vwCl [(a0, .inr (4, [.ref a1, .ref a2, .ref a3, .ref a4, .ref a5])), (a2, soF a6 a7 r), (a6, soV y r), (a7, soW y r)] H := hP
    have hD : va_D A [(a0, .inr (4, [.ref a1, .ref a2, .ref a3, .ref a4, .ref a5])), (a2, soF a6 a7 r), (a6, soV y r), (a7, soW y r)] := hD
    rcases xc_E h4.2 with rfl | rfl | rfl
    · rw [xc_IA] at h4q
      have hF := hF.trans (if_neg (show ¬ q1.1 = 0 by rw [h4q]; decide))
      refine vx_catch hown (tableOf []) ⟨0, 5, 6, 13⟩ (tableOf []) (htab.trans rfl) (fun z hz => nomatch hz) (by decide) (by decide) w_0 (hXE.1.1.1.use rfl) h4a h4b h4c ?_
      refine W.eq (g2 := F0 m 6 ls [.ref a97]) rfl ?_
      refine lv_astore_n (lv' := [(2, .ref a97), (0, .ref a0), (1, .int p1)]) hx hb dL_tryAbout_6 rfl hl (by decide) rfl (fun ls hl => ?_)
      refine lv_ldc (v := (-9999002)) hx hb hown w_1 dL_tryAbout_7 ?_
      refine W.widen (k := 2) (n := 12) (Nat.le_of_ble_eq_true rfl) (Nat.le_of_ble_eq_true rfl) ?_
      refine vx_ret ?_
      exact W.iret (v := (-9999002)) hx hb hr (fun t ht hW => ⟨⟨(-9999002), (), rfl, hF, ⟨by rw [ht]; exact hP, hD⟩⟩, hS.F ht⟩) hS.2.2 dL_tryAbout_9
    · rw [xc_IS] at h4q
      have hc := cd_X5_about r p1
      rw [eq1, h4q] at hc
      exact absurd hc (by decide)
    · rw [xc_IO] at h4q
      have hc := cd_X5_about r p1
      rw [eq1, h4q] at hc
      exact absurd hc (by decide)
  · have h4q : q1.1 = 0 := by rw [← eq1, h4]
    obtain rfl : q1.2 = v2 := by rw [← eq1, h4]
    have hP : va_P D vwCl [(a0, .inr (4, [.ref a1, .ref a2, .ref a3, .ref a4, .ref a5])), (a2, soF a6 a7 r), (a6, soV y r), (a7, soW y r)] H := hP
    have hD : va_D A [(a0, .inr (4, [.ref a1, .ref a2, .ref a3, .ref a4, .ref a5])), (a2, soF a6 a7 r), (a6, soV y r), (a7, soW y r)] := hD
    have hF := hF.trans (if_pos h4q)
    refine W.widen (k := 2) (n := 12) (Nat.le_of_ble_eq_true rfl) (Nat.le_of_ble_eq_true rfl) ?_
    refine vx_ret ?_
    exact W.iret (v := q1.2) hx hb hr (fun t ht hW => ⟨⟨q1.2, (), rfl, hF, ⟨by rw [ht]; exact hP, hD⟩⟩, hS.F ht⟩) hS.2.2 dL_tryAbout_5

def f_L_tryRead (r : gR) (p1 : Int32) : Int32 :=
    gLet (f_X5_read r p1) (fun (q1 : Nat × Int32) =>
    if q1.1 = 0 then
      q1.2
    else
      (-9999001))
theorem f_L_tryRead_s (r : gR) (p1 : Int32) : f_L_tryRead r p1 =
    (gLet (f_X5_read r p1) (fun (q1 : Nat × Int32) =>
    if q1.1 = 0 then
      q1.2
    else
      (-9999001))) := rfl
theorem hd_L_tryRead : yL_tryRead.cls ≠ "java/lang/invoke/MethodHandle" ∧ yL_tryRead.cls ≠ "java/lang/invoke/VarHandle" ∧ (parseMethodDescriptor yL_tryRead.desc).map (fun d => d.parameters.length) = some 2 := by decide +kernel
set_option maxHeartbeats 4000000 in
set_option maxRecDepth 100000 in
theorem c_L_tryRead (l : Launch) (hst : l.stackTraces = false) (D : va_G) (y : Nat → ClassId) (a0 a1 a2 a3 a4 a5 a6 a7 : Nat) (zh : Nat) (r : gR) (p1 : Int32) (ho : okC r) : Met l yL_tryRead wsL_tryRead ({ frames := 8, cells := 2, slots := 12, locals := 124 }) (lP D y [.ref a0, .int p1] zh [(a0, .inr (4, [.ref a1, .ref a2, .ref a3, .ref a4, .ref a5])), (a2, soF a6 a7 r), (a6, soV y r), (a7, soW y r)]) (va_Qi (fun (v : Int32) (u : Unit) => f_L_tryRead r p1 = v) (fun (u : Unit) t => va_P D vwCl [(a0, .inr (4, [.ref a1, .ref a2, .ref a3, .ref a4, .ref a5])), (a2, soF a6 a7 r), (a6, soV y r), (a7, soW y r)] t.heap ∧ va_D (va_A [(a0, .inr (4, [.ref a1, .ref a2, .ref a3, .ref a4, .ref a5])), (a2, soF a6 a7 r), (a6, soV y r), (a7, soW y r)] zh) [(a0, .inr (4, [.ref a1, .ref a2, .ref a3, .ref a4, .ref a5])), (a2, soF a6 a7 r), (a6, soV y r), (a7, soW y r)]) (va_A [(a0, .inr (4, [.ref a1, .ref a2, .ref a3, .ref a4, .ref a5])), (a2, soF a6 a7 r), (a6, soV y r), (a7, soW y r)] zh)) 2 12 (va_A [(a0, .inr (4, [.ref a1, .ref a2, .ref a3, .ref a4, .ref a5])), (a2, soF a6 a7 r), (a6, soV y r), (a7, soW y r)] zh) := by
  refine xL_of (vx_ofWH (cc := cL_tryRead) (maxL := 3) (ret := (some .int)) (hh := [(0, 5, 6, 37)]) (by decide) rfl ?_)
  intro p e s m args below meth c s₁ B hml hv
  obtain ⟨⟨⟨rfl, hsz, hP, hE, hD⟩, hXE, hXZ⟩, hLN⟩ := hv
  have hx := B.exec
  have hb := B.bytes
  have hr := B.returns
  have hts := atoms_spec (ws := wsL_tryRead) B.pre
  have hown : s.vm.findClass RL = some m.cls := findClass_of_methodNamed B.named
  have hlocks := B.notSynchronized
  have htab := vx_table (x := yL_tryRead) B (hts _ List.mem_cons_self)
  have w_0 := hts (.classLink RL 37 "java/lang/IndexOutOfBoundsException") (List.mem_cons_of_mem _ (List.mem_append_left _ (List.mem_append_left _ (List.mem_append_left _ (List.mem_append_left _ (List.mem_of_getElem? (i := 0) rfl))))))
  have w_1 := hts (.constant RL 39 (-9999001)) (List.mem_cons_of_mem _ (List.mem_append_left _ (List.mem_append_left _ (List.mem_append_left _ (List.mem_append_left _ (List.mem_of_getElem? (i := 1) rfl))))))
  subst hsz
  have hD := hD.self (sz := s.heap.size)
  generalize hAe : va_A [(a0, .inr (4, [.ref a1, .ref a2, .ref a3, .ref a4, .ref a5])), (a2, soF a6 a7 r), (a6, soV y r), (a7, soW y r)] s.heap.size = A at hD hXZ ⊢
  have hA : ∀ q : Nat, s.heap.size ≤ q → A q := fun q h => by rw [← hAe]; exact Or.inr h
  have hS : va_S A s.heap s.heap [] := va_S.rf
  have hl := lv_entry ([.ref a0, .int p1]) (n := 3) (Nat.le_of_ble_eq_true rfl)
  rw [lg_entry_eq]
  generalize (lg_sl ([.ref a0, .int p1]) ++ List.replicate (3 - (lg_sl ([.ref a0, .int p1])).length) Slot.unset).toArray = ls at hl ⊢
  have hl : lv_has ls 3 [(0, .ref a0), (1, .int p1)] := hl
  have hF := f_L_tryRead_s r p1
  refine lv_aload_n hx hb dL_tryRead_0 rfl (lv_at hl 0 rfl) ?_
  refine lv_iload_n hx hb dL_tryRead_1 rfl (lv_at hl 1 rfl) ?_
  obtain ⟨q1, eq1⟩ : ∃ z : Nat × Int32, f_X5_read r p1 = z := ⟨_, rfl⟩
  have hF := hF.trans (gLet_e eq1)
  refine xq_calli (vx_runV (As := [.int p1]) (rest := []) ⟨hx, hb, hml, hown, hts⟩ (c_X5_read l hst D y a0 a1 a2 a3 a4 a5 a6 a7 s.heap.size r p1 ho) (cwV 1 hts gL_tryRead_X5_read rfl rfl rfl hd_X5_read ⟨Nat.le_of_ble_eq_true rfl, Nat.le_of_ble_eq_true rfl⟩) (xV (q := (RX5, TX5, 5)) hE hXE hXZ hS hA hP hD 0 rfl rfl) rfl rfl hl.1 rfl (lv_room (Nat.le_of_ble_eq_true rfl)) dL_tryRead_2 ⟨Nat.le_of_ble_eq_true rfl, Nat.le_of_ble_eq_true rfl⟩) hP hD hS hA [0, 1, 2, 3] rfl (by decide) (fun _ => rfl) (fun E5 ce6 a97 u3 H locs h4 hP hD hS h4a h4b h4c => ?_) (fun v2 u3 H locs h4 hP hD hS => ?_)
  · have h4q : q1.1 = xc E5 := by rw [← eq1, h4.1]
    have hP : va_P D vwCl [(a0, .inr (4, [.ref a1, .ref a2, .ref a3, .ref a4, .ref a5])), (a2, soF a6 a7 r), (a6, soV y r), (a7, soW y r)] H := hP
    have hD : va_D A [(a0, .inr (4, [.ref a1, .ref a2, .ref a3, .ref a4, .ref a5])), (a2, soF a6 a7 r), (a6, soV y r), (a7, soW y r)] := hD
    rcases xc_E h4.2 with rfl | rfl | rfl
    · rw [xc_IA] at h4q
      have hc := cd_X5_read r p1
      rw [eq1, h4q] at hc
      exact absurd hc (by decide)
    · rw [xc_IS] at h4q
      have hc := cd_X5_read r p1
      rw [eq1, h4q] at hc
      exact absurd hc (by decide)
    · rw [xc_IO] at h4q
      have hF := hF.trans (if_neg (show ¬ q1.1 = 0 by rw [h4q]; decide))
      refine vx_catch hown (tableOf []) ⟨0, 5, 6, 37⟩ (tableOf []) (htab.trans rfl) (fun z hz => nomatch hz) (by decide) (by decide) w_0 (hXE.1.1.2.2.use rfl) h4a h4b h4c ?_
      refine W.eq (g2 := F0 m 6 ls [.ref a97]) rfl ?_
      refine lv_astore_n (lv' := [(2, .ref a97), (0, .ref a0), (1, .int p1)]) hx hb dL_tryRead_6 rfl hl (by decide) rfl (fun ls hl => ?_)
      refine lv_ldc (v := (-9999001)) hx hb hown w_1 dL_tryRead_7 ?_
      refine W.widen (k := 2) (n := 12) (Nat.le_of_ble_eq_true rfl) (Nat.le_of_ble_eq_true rfl) ?_
      refine vx_ret ?_
      exact W.iret (v := (-9999001)) hx hb hr (fun t ht hW => ⟨⟨(-9999001), (), rfl, hF, ⟨by rw [ht]; exact hP, hD⟩⟩, hS.F ht⟩) hS.2.2 dL_tryRead_9
  · have h4q : q1.1 = 0 := by rw [← eq1, h4]
    obtain rfl : q1.2 = v2 := by rw [← eq1, h4]
    have hP : va_P D vwCl [(a0, .inr (4, [.ref a1, .ref a2, .ref a3, .ref a4, .ref a5])), (a2, soF a6 a7 r), (a6, soV y r), (a7, soW y r)] H := hP
    have hD : va_D A [(a0, .inr (4, [.ref a1, .ref a2, .ref a3, .ref a4, .ref a5])), (a2, soF a6 a7 r), (a6, soV y r), (a7, soW y r)] := hD
    have hF := hF.trans (if_pos h4q)
    refine W.widen (k := 2) (n := 12) (Nat.le_of_ble_eq_true rfl) (Nat.le_of_ble_eq_true rfl) ?_
    refine vx_ret ?_
    exact W.iret (v := q1.2) hx hb hr (fun t ht hW => ⟨⟨q1.2, (), rfl, hF, ⟨by rw [ht]; exact hP, hD⟩⟩, hS.F ht⟩) hS.2.2 dL_tryRead_5

def f_L_tryPlace (r : gR) (p1 : Int32) : Int32 :=
    gLet (f_X5_place r p1) (fun (q1 : Nat × Int32) =>
    if q1.1 = 0 then
      q1.2
    else
      (-9999001))
theorem f_L_tryPlace_s (r : gR) (p1 : Int32) : f_L_tryPlace r p1 =
    (gLet (f_X5_place r p1) (fun (q1 : Nat × Int32) =>
    if q1.1 = 0 then
      q1.2
    else
      (-9999001))) := rfl
theorem hd_L_tryPlace : yL_tryPlace.cls ≠ "java/lang/invoke/MethodHandle" ∧ yL_tryPlace.cls ≠ "java/lang/invoke/VarHandle" ∧ (parseMethodDescriptor yL_tryPlace.desc).map (fun d => d.parameters.length) = some 2 := by decide +kernel
set_option maxHeartbeats 4000000 in
set_option maxRecDepth 100000 in
theorem c_L_tryPlace (l : Launch) (hst : l.stackTraces = false) (D : va_G) (y : Nat → ClassId) (a0 a1 a2 a3 a4 a5 a6 a7 : Nat) (zh : Nat) (r : gR) (p1 : Int32) (ho : okC r) : Met l yL_tryPlace wsL_tryPlace ({ frames := 8, cells := 2, slots := 12, locals := 124 }) (lP D y [.ref a0, .int p1] zh [(a0, .inr (4, [.ref a1, .ref a2, .ref a3, .ref a4, .ref a5])), (a2, soF a6 a7 r), (a6, soV y r), (a7, soW y r)]) (va_Qi (fun (v : Int32) (u : Unit) => f_L_tryPlace r p1 = v) (fun (u : Unit) t => va_P D vwCl [(a0, .inr (4, [.ref a1, .ref a2, .ref a3, .ref a4, .ref a5])), (a2, soF a6 a7 r), (a6, soV y r), (a7, soW y r)] t.heap ∧ va_D (va_A [(a0, .inr (4, [.ref a1, .ref a2, .ref a3, .ref a4, .ref a5])), (a2, soF a6 a7 r), (a6, soV y r), (a7, soW y r)] zh) [(a0, .inr (4, [.ref a1, .ref a2, .ref a3, .ref a4, .ref a5])), (a2, soF a6 a7 r), (a6, soV y r), (a7, soW y r)]) (va_A [(a0, .inr (4, [.ref a1, .ref a2, .ref a3, .ref a4, .ref a5])), (a2, soF a6 a7 r), (a6, soV y r), (a7, soW y r)] zh)) 2 12 (va_A [(a0, .inr (4, [.ref a1, .ref a2, .ref a3, .ref a4, .ref a5])), (a2, soF a6 a7 r), (a6, soV y r), (a7, soW y r)] zh) := by
  refine xL_of (vx_ofWH (cc := cL_tryPlace) (maxL := 3) (ret := (some .int)) (hh := [(0, 5, 6, 37)]) (by decide) rfl ?_)
  intro p e s m args below meth c s₁ B hml hv
  obtain ⟨⟨⟨rfl, hsz, hP, hE, hD⟩, hXE, hXZ⟩, hLN⟩ := hv
  have hx := B.exec
  have hb := B.bytes
  have hr := B.returns
  have hts := atoms_spec (ws := wsL_tryPlace) B.pre
  have hown : s.vm.findClass RL = some m.cls := findClass_of_methodNamed B.named
  have hlocks := B.notSynchronized
  have htab := vx_table (x := yL_tryPlace) B (hts _ List.mem_cons_self)
  have w_0 := hts (.classLink RL 37 "java/lang/IndexOutOfBoundsException") (List.mem_cons_of_mem _ (List.mem_append_left _ (List.mem_append_left _ (List.mem_append_left _ (List.mem_append_left _ (List.mem_of_getElem? (i := 0) rfl))))))
  have w_1 := hts (.constant RL 39 (-9999001)) (List.mem_cons_of_mem _ (List.mem_append_left _ (List.mem_append_left _ (List.mem_append_left _ (List.mem_append_left _ (List.mem_of_getElem? (i := 1) rfl))))))
  subst hsz
  have hD := hD.self (sz := s.heap.size)
  generalize hAe : va_A [(a0, .inr (4, [.ref a1, .ref a2, .ref a3, .ref a4, .ref a5])), (a2, soF a6 a7 r), (a6, soV y r), (a7, soW y r)] s.heap.size = A at hD hXZ ⊢
  have hA : ∀ q : Nat, s.heap.size ≤ q → A q := fun q h => by rw [← hAe]; exact Or.inr h
  have hS : va_S A s.heap s.heap [] := va_S.rf
  have hl := lv_entry ([.ref a0, .int p1]) (n := 3) (Nat.le_of_ble_eq_true rfl)
  rw [lg_entry_eq]
  generalize (lg_sl ([.ref a0, .int p1]) ++ List.replicate (3 - (lg_sl ([.ref a0, .int p1])).length) Slot.unset).toArray = ls at hl ⊢
  have hl : lv_has ls 3 [(0, .ref a0), (1, .int p1)] := hl
  have hF := f_L_tryPlace_s r p1
  refine lv_aload_n hx hb dL_tryPlace_0 rfl (lv_at hl 0 rfl) ?_
  refine lv_iload_n hx hb dL_tryPlace_1 rfl (lv_at hl 1 rfl) ?_
  obtain ⟨q1, eq1⟩ : ∃ z : Nat × Int32, f_X5_place r p1 = z := ⟨_, rfl⟩
  have hF := hF.trans (gLet_e eq1)
  refine xq_calli (vx_runV (As := [.int p1]) (rest := []) ⟨hx, hb, hml, hown, hts⟩ (c_X5_place l hst D y a0 a1 a2 a3 a4 a5 a6 a7 s.heap.size r p1 ho) (cwV 1 hts gL_tryPlace_X5_place rfl rfl rfl hd_X5_place ⟨Nat.le_of_ble_eq_true rfl, Nat.le_of_ble_eq_true rfl⟩) (xV (q := (RX5, TX5, 5)) hE hXE hXZ hS hA hP hD 0 rfl rfl) rfl rfl hl.1 rfl (lv_room (Nat.le_of_ble_eq_true rfl)) dL_tryPlace_2 ⟨Nat.le_of_ble_eq_true rfl, Nat.le_of_ble_eq_true rfl⟩) hP hD hS hA [0, 1, 2, 3] rfl (by decide) (fun _ => rfl) (fun E5 ce6 a97 u3 H locs h4 hP hD hS h4a h4b h4c => ?_) (fun v2 u3 H locs h4 hP hD hS => ?_)
  · have h4q : q1.1 = xc E5 := by rw [← eq1, h4.1]
    have hP : va_P D vwCl [(a0, .inr (4, [.ref a1, .ref a2, .ref a3, .ref a4, .ref a5])), (a2, soF a6 a7 r), (a6, soV y r), (a7, soW y r)] H := hP
    have hD : va_D A [(a0, .inr (4, [.ref a1, .ref a2, .ref a3, .ref a4, .ref a5])), (a2, soF a6 a7 r), (a6, soV y r), (a7, soW y r)] := hD
    rcases xc_E h4.2 with rfl | rfl | rfl
    · rw [xc_IA] at h4q
      have hc := cd_X5_place r p1
      rw [eq1, h4q] at hc
      exact absurd hc (by decide)
    · rw [xc_IS] at h4q
      have hc := cd_X5_place r p1
      rw [eq1, h4q] at hc
      exact absurd hc (by decide)
    · rw [xc_IO] at h4q
      have hF := hF.trans (if_neg (show ¬ q1.1 = 0 by rw [h4q]; decide))
      refine vx_catch hown (tableOf []) ⟨0, 5, 6, 37⟩ (tableOf []) (htab.trans rfl) (fun z hz => nomatch hz) (by decide) (by decide) w_0 (hXE.1.1.2.2.use rfl) h4a h4b h4c ?_
      refine W.eq (g2 := F0 m 6 ls [.ref a97]) rfl ?_
      refine lv_astore_n (lv' := [(2, .ref a97), (0, .ref a0), (1, .int p1)]) hx hb dL_tryPlace_6 rfl hl (by decide) rfl (fun ls hl => ?_)
      refine lv_ldc (v := (-9999001)) hx hb hown w_1 dL_tryPlace_7 ?_
      refine W.widen (k := 2) (n := 12) (Nat.le_of_ble_eq_true rfl) (Nat.le_of_ble_eq_true rfl) ?_
      refine vx_ret ?_
      exact W.iret (v := (-9999001)) hx hb hr (fun t ht hW => ⟨⟨(-9999001), (), rfl, hF, ⟨by rw [ht]; exact hP, hD⟩⟩, hS.F ht⟩) hS.2.2 dL_tryPlace_9
  · have h4q : q1.1 = 0 := by rw [← eq1, h4]
    obtain rfl : q1.2 = v2 := by rw [← eq1, h4]
    have hP : va_P D vwCl [(a0, .inr (4, [.ref a1, .ref a2, .ref a3, .ref a4, .ref a5])), (a2, soF a6 a7 r), (a6, soV y r), (a7, soW y r)] H := hP
    have hD : va_D A [(a0, .inr (4, [.ref a1, .ref a2, .ref a3, .ref a4, .ref a5])), (a2, soF a6 a7 r), (a6, soV y r), (a7, soW y r)] := hD
    have hF := hF.trans (if_pos h4q)
    refine W.widen (k := 2) (n := 12) (Nat.le_of_ble_eq_true rfl) (Nat.le_of_ble_eq_true rfl) ?_
    refine vx_ret ?_
    exact W.iret (v := q1.2) hx hb hr (fun t ht hW => ⟨⟨q1.2, (), rfl, hF, ⟨by rw [ht]; exact hP, hD⟩⟩, hS.F ht⟩) hS.2.2 dL_tryPlace_5

def f_L_tryLine (r : gR) (p1 : Int32) : Int32 :=
    gLet (f_X5_line r p1) (fun (q1 : Nat × Int32) =>
    if q1.1 = 0 then
      q1.2
    else
      (-9999001))
theorem f_L_tryLine_s (r : gR) (p1 : Int32) : f_L_tryLine r p1 =
    (gLet (f_X5_line r p1) (fun (q1 : Nat × Int32) =>
    if q1.1 = 0 then
      q1.2
    else
      (-9999001))) := rfl
theorem hd_L_tryLine : yL_tryLine.cls ≠ "java/lang/invoke/MethodHandle" ∧ yL_tryLine.cls ≠ "java/lang/invoke/VarHandle" ∧ (parseMethodDescriptor yL_tryLine.desc).map (fun d => d.parameters.length) = some 2 := by decide +kernel
set_option maxHeartbeats 4000000 in
set_option maxRecDepth 100000 in
theorem c_L_tryLine (l : Launch) (hst : l.stackTraces = false) (D : va_G) (y : Nat → ClassId) (a0 a1 a2 a3 a4 a5 a6 a7 : Nat) (zh : Nat) (r : gR) (p1 : Int32) (ho : okC r) : Met l yL_tryLine wsL_tryLine ({ frames := 8, cells := 2, slots := 12, locals := 124 }) (lP D y [.ref a0, .int p1] zh [(a0, .inr (4, [.ref a1, .ref a2, .ref a3, .ref a4, .ref a5])), (a2, soF a6 a7 r), (a6, soV y r), (a7, soW y r)]) (va_Qi (fun (v : Int32) (u : Unit) => f_L_tryLine r p1 = v) (fun (u : Unit) t => va_P D vwCl [(a0, .inr (4, [.ref a1, .ref a2, .ref a3, .ref a4, .ref a5])), (a2, soF a6 a7 r), (a6, soV y r), (a7, soW y r)] t.heap ∧ va_D (va_A [(a0, .inr (4, [.ref a1, .ref a2, .ref a3, .ref a4, .ref a5])), (a2, soF a6 a7 r), (a6, soV y r), (a7, soW y r)] zh) [(a0, .inr (4, [.ref a1, .ref a2, .ref a3, .ref a4, .ref a5])), (a2, soF a6 a7 r), (a6, soV y r), (a7, soW y r)]) (va_A [(a0, .inr (4, [.ref a1, .ref a2, .ref a3, .ref a4, .ref a5])), (a2, soF a6 a7 r), (a6, soV y r), (a7, soW y r)] zh)) 2 12 (va_A [(a0, .inr (4, [.ref a1, .ref a2, .ref a3, .ref a4, .ref a5])), (a2, soF a6 a7 r), (a6, soV y r), (a7, soW y r)] zh) := by
  refine xL_of (vx_ofWH (cc := cL_tryLine) (maxL := 3) (ret := (some .int)) (hh := [(0, 5, 6, 37)]) (by decide) rfl ?_)
  intro p e s m args below meth c s₁ B hml hv
  obtain ⟨⟨⟨rfl, hsz, hP, hE, hD⟩, hXE, hXZ⟩, hLN⟩ := hv
  have hx := B.exec
  have hb := B.bytes
  have hr := B.returns
  have hts := atoms_spec (ws := wsL_tryLine) B.pre
  have hown : s.vm.findClass RL = some m.cls := findClass_of_methodNamed B.named
  have hlocks := B.notSynchronized
  have htab := vx_table (x := yL_tryLine) B (hts _ List.mem_cons_self)
  have w_0 := hts (.classLink RL 37 "java/lang/IndexOutOfBoundsException") (List.mem_cons_of_mem _ (List.mem_append_left _ (List.mem_append_left _ (List.mem_append_left _ (List.mem_append_left _ (List.mem_of_getElem? (i := 0) rfl))))))
  have w_1 := hts (.constant RL 39 (-9999001)) (List.mem_cons_of_mem _ (List.mem_append_left _ (List.mem_append_left _ (List.mem_append_left _ (List.mem_append_left _ (List.mem_of_getElem? (i := 1) rfl))))))
  subst hsz
  have hD := hD.self (sz := s.heap.size)
  generalize hAe : va_A [(a0, .inr (4, [.ref a1, .ref a2, .ref a3, .ref a4, .ref a5])), (a2, soF a6 a7 r), (a6, soV y r), (a7, soW y r)] s.heap.size = A at hD hXZ ⊢
  have hA : ∀ q : Nat, s.heap.size ≤ q → A q := fun q h => by rw [← hAe]; exact Or.inr h
  have hS : va_S A s.heap s.heap [] := va_S.rf
  have hl := lv_entry ([.ref a0, .int p1]) (n := 3) (Nat.le_of_ble_eq_true rfl)
  rw [lg_entry_eq]
  generalize (lg_sl ([.ref a0, .int p1]) ++ List.replicate (3 - (lg_sl ([.ref a0, .int p1])).length) Slot.unset).toArray = ls at hl ⊢
  have hl : lv_has ls 3 [(0, .ref a0), (1, .int p1)] := hl
  have hF := f_L_tryLine_s r p1
  refine lv_aload_n hx hb dL_tryLine_0 rfl (lv_at hl 0 rfl) ?_
  refine lv_iload_n hx hb dL_tryLine_1 rfl (lv_at hl 1 rfl) ?_
  obtain ⟨q1, eq1⟩ : ∃ z : Nat × Int32, f_X5_line r p1 = z := ⟨_, rfl⟩
  have hF := hF.trans (gLet_e eq1)
  refine xq_calli (vx_runV (As := [.int p1]) (rest := []) ⟨hx, hb, hml, hown, hts⟩ (c_X5_line l hst D y a0 a1 a2 a3 a4 a5 a6 a7 s.heap.size r p1 ho) (cwV 1 hts gL_tryLine_X5_line rfl rfl rfl hd_X5_line ⟨Nat.le_of_ble_eq_true rfl, Nat.le_of_ble_eq_true rfl⟩) (xV (q := (RX5, TX5, 5)) hE hXE hXZ hS hA hP hD 0 rfl rfl) rfl rfl hl.1 rfl (lv_room (Nat.le_of_ble_eq_true rfl)) dL_tryLine_2 ⟨Nat.le_of_ble_eq_true rfl, Nat.le_of_ble_eq_true rfl⟩) hP hD hS hA [0, 1, 2, 3] rfl (by decide) (fun _ => rfl) (fun E5 ce6 a97 u3 H locs h4 hP hD hS h4a h4b h4c => ?_) (fun v2 u3 H locs h4 hP hD hS => ?_)
  · have h4q : q1.1 = xc E5 := by rw [← eq1, h4.1]
    have hP : va_P D vwCl [(a0, .inr (4, [.ref a1, .ref a2, .ref a3, .ref a4, .ref a5])), (a2, soF a6 a7 r), (a6, soV y r), (a7, soW y r)] H := hP
    have hD : va_D A [(a0, .inr (4, [.ref a1, .ref a2, .ref a3, .ref a4, .ref a5])), (a2, soF a6 a7 r), (a6, soV y r), (a7, soW y r)] := hD
    rcases xc_E h4.2 with rfl | rfl | rfl
    · rw [xc_IA] at h4q
      have hc := cd_X5_line r p1
      rw [eq1, h4q] at hc
      exact absurd hc (by decide)
    · rw [xc_IS] at h4q
      have hc := cd_X5_line r p1
      rw [eq1, h4q] at hc
      exact absurd hc (by decide)
    · rw [xc_IO] at h4q
      have hF := hF.trans (if_neg (show ¬ q1.1 = 0 by rw [h4q]; decide))
      refine vx_catch hown (tableOf []) ⟨0, 5, 6, 37⟩ (tableOf []) (htab.trans rfl) (fun z hz => nomatch hz) (by decide) (by decide) w_0 (hXE.1.1.2.2.use rfl) h4a h4b h4c ?_
      refine W.eq (g2 := F0 m 6 ls [.ref a97]) rfl ?_
      refine lv_astore_n (lv' := [(2, .ref a97), (0, .ref a0), (1, .int p1)]) hx hb dL_tryLine_6 rfl hl (by decide) rfl (fun ls hl => ?_)
      refine lv_ldc (v := (-9999001)) hx hb hown w_1 dL_tryLine_7 ?_
      refine W.widen (k := 2) (n := 12) (Nat.le_of_ble_eq_true rfl) (Nat.le_of_ble_eq_true rfl) ?_
      refine vx_ret ?_
      exact W.iret (v := (-9999001)) hx hb hr (fun t ht hW => ⟨⟨(-9999001), (), rfl, hF, ⟨by rw [ht]; exact hP, hD⟩⟩, hS.F ht⟩) hS.2.2 dL_tryLine_9
  · have h4q : q1.1 = 0 := by rw [← eq1, h4]
    obtain rfl : q1.2 = v2 := by rw [← eq1, h4]
    have hP : va_P D vwCl [(a0, .inr (4, [.ref a1, .ref a2, .ref a3, .ref a4, .ref a5])), (a2, soF a6 a7 r), (a6, soV y r), (a7, soW y r)] H := hP
    have hD : va_D A [(a0, .inr (4, [.ref a1, .ref a2, .ref a3, .ref a4, .ref a5])), (a2, soF a6 a7 r), (a6, soV y r), (a7, soW y r)] := hD
    have hF := hF.trans (if_pos h4q)
    refine W.widen (k := 2) (n := 12) (Nat.le_of_ble_eq_true rfl) (Nat.le_of_ble_eq_true rfl) ?_
    refine vx_ret ?_
    exact W.iret (v := q1.2) hx hb hr (fun t ht hW => ⟨⟨q1.2, (), rfl, hF, ⟨by rw [ht]; exact hP, hD⟩⟩, hS.F ht⟩) hS.2.2 dL_tryLine_5

def f_L_tryWear (r : gR) (p1 : Int32) : Int32 :=
    gLet (f_X5_wear r p1) (fun (q1 : Nat × Int32) =>
    if q1.1 = 0 then
      q1.2
    else
      (-9999001))
theorem f_L_tryWear_s (r : gR) (p1 : Int32) : f_L_tryWear r p1 =
    (gLet (f_X5_wear r p1) (fun (q1 : Nat × Int32) =>
    if q1.1 = 0 then
      q1.2
    else
      (-9999001))) := rfl
theorem hd_L_tryWear : yL_tryWear.cls ≠ "java/lang/invoke/MethodHandle" ∧ yL_tryWear.cls ≠ "java/lang/invoke/VarHandle" ∧ (parseMethodDescriptor yL_tryWear.desc).map (fun d => d.parameters.length) = some 2 := by decide +kernel
set_option maxHeartbeats 4000000 in
set_option maxRecDepth 100000 in
theorem c_L_tryWear (l : Launch) (hst : l.stackTraces = false) (D : va_G) (y : Nat → ClassId) (a0 a1 a2 a3 a4 a5 a6 a7 : Nat) (zh : Nat) (r : gR) (p1 : Int32) (ho : okC r) : Met l yL_tryWear wsL_tryWear ({ frames := 8, cells := 2, slots := 12, locals := 124 }) (lP D y [.ref a0, .int p1] zh [(a0, .inr (4, [.ref a1, .ref a2, .ref a3, .ref a4, .ref a5])), (a2, soF a6 a7 r), (a6, soV y r), (a7, soW y r)]) (va_Qi (fun (v : Int32) (u : Unit) => f_L_tryWear r p1 = v) (fun (u : Unit) t => va_P D vwCl [(a0, .inr (4, [.ref a1, .ref a2, .ref a3, .ref a4, .ref a5])), (a2, soF a6 a7 r), (a6, soV y r), (a7, soW y r)] t.heap ∧ va_D (va_A [(a0, .inr (4, [.ref a1, .ref a2, .ref a3, .ref a4, .ref a5])), (a2, soF a6 a7 r), (a6, soV y r), (a7, soW y r)] zh) [(a0, .inr (4, [.ref a1, .ref a2, .ref a3, .ref a4, .ref a5])), (a2, soF a6 a7 r), (a6, soV y r), (a7, soW y r)]) (va_A [(a0, .inr (4, [.ref a1, .ref a2, .ref a3, .ref a4, .ref a5])), (a2, soF a6 a7 r), (a6, soV y r), (a7, soW y r)] zh)) 2 12 (va_A [(a0, .inr (4, [.ref a1, .ref a2, .ref a3, .ref a4, .ref a5])), (a2, soF a6 a7 r), (a6, soV y r), (a7, soW y r)] zh) := by
  refine xL_of (vx_ofWH (cc := cL_tryWear) (maxL := 3) (ret := (some .int)) (hh := [(0, 5, 6, 37)]) (by decide) rfl ?_)
  intro p e s m args below meth c s₁ B hml hv
  obtain ⟨⟨⟨rfl, hsz, hP, hE, hD⟩, hXE, hXZ⟩, hLN⟩ := hv
  have hx := B.exec
  have hb := B.bytes
  have hr := B.returns
  have hts := atoms_spec (ws := wsL_tryWear) B.pre
  have hown : s.vm.findClass RL = some m.cls := findClass_of_methodNamed B.named
  have hlocks := B.notSynchronized
  have htab := vx_table (x := yL_tryWear) B (hts _ List.mem_cons_self)
  have w_0 := hts (.classLink RL 37 "java/lang/IndexOutOfBoundsException") (List.mem_cons_of_mem _ (List.mem_append_left _ (List.mem_append_left _ (List.mem_append_left _ (List.mem_append_left _ (List.mem_of_getElem? (i := 0) rfl))))))
  have w_1 := hts (.constant RL 39 (-9999001)) (List.mem_cons_of_mem _ (List.mem_append_left _ (List.mem_append_left _ (List.mem_append_left _ (List.mem_append_left _ (List.mem_of_getElem? (i := 1) rfl))))))
  subst hsz
  have hD := hD.self (sz := s.heap.size)
  generalize hAe : va_A [(a0, .inr (4, [.ref a1, .ref a2, .ref a3, .ref a4, .ref a5])), (a2, soF a6 a7 r), (a6, soV y r), (a7, soW y r)] s.heap.size = A at hD hXZ ⊢
  have hA : ∀ q : Nat, s.heap.size ≤ q → A q := fun q h => by rw [← hAe]; exact Or.inr h
  have hS : va_S A s.heap s.heap [] := va_S.rf
  have hl := lv_entry ([.ref a0, .int p1]) (n := 3) (Nat.le_of_ble_eq_true rfl)
  rw [lg_entry_eq]
  generalize (lg_sl ([.ref a0, .int p1]) ++ List.replicate (3 - (lg_sl ([.ref a0, .int p1])).length) Slot.unset).toArray = ls at hl ⊢
  have hl : lv_has ls 3 [(0, .ref a0), (1, .int p1)] := hl
  have hF := f_L_tryWear_s r p1
  refine lv_aload_n hx hb dL_tryWear_0 rfl (lv_at hl 0 rfl) ?_
  refine lv_iload_n hx hb dL_tryWear_1 rfl (lv_at hl 1 rfl) ?_
  obtain ⟨q1, eq1⟩ : ∃ z : Nat × Int32, f_X5_wear r p1 = z := ⟨_, rfl⟩
  have hF := hF.trans (gLet_e eq1)
  refine xq_calli (vx_runV (As := [.int p1]) (rest := []) ⟨hx, hb, hml, hown, hts⟩ (c_X5_wear l hst D y a0 a1 a2 a3 a4 a5 a6 a7 s.heap.size r p1 ho) (cwV 1 hts gL_tryWear_X5_wear rfl rfl rfl hd_X5_wear ⟨Nat.le_of_ble_eq_true rfl, Nat.le_of_ble_eq_true rfl⟩) (xV (q := (RX5, TX5, 5)) hE hXE hXZ hS hA hP hD 0 rfl rfl) rfl rfl hl.1 rfl (lv_room (Nat.le_of_ble_eq_true rfl)) dL_tryWear_2 ⟨Nat.le_of_ble_eq_true rfl, Nat.le_of_ble_eq_true rfl⟩) hP hD hS hA [0, 1, 2, 3] rfl (by decide) (fun _ => rfl) (fun E5 ce6 a97 u3 H locs h4 hP hD hS h4a h4b h4c => ?_) (fun v2 u3 H locs h4 hP hD hS => ?_)
  · have h4q : q1.1 = xc E5 := by rw [← eq1, h4.1]
    have hP : va_P D vwCl [(a0, .inr (4, [.ref a1, .ref a2, .ref a3, .ref a4, .ref a5])), (a2, soF a6 a7 r), (a6, soV y r), (a7, soW y r)] H := hP
    have hD : va_D A [(a0, .inr (4, [.ref a1, .ref a2, .ref a3, .ref a4, .ref a5])), (a2, soF a6 a7 r), (a6, soV y r), (a7, soW y r)] := hD
    rcases xc_E h4.2 with rfl | rfl | rfl
    · rw [xc_IA] at h4q
      have hc := cd_X5_wear r p1
      rw [eq1, h4q] at hc
      exact absurd hc (by decide)
    · rw [xc_IS] at h4q
      have hc := cd_X5_wear r p1
      rw [eq1, h4q] at hc
      exact absurd hc (by decide)
    · rw [xc_IO] at h4q
      have hF := hF.trans (if_neg (show ¬ q1.1 = 0 by rw [h4q]; decide))
      refine vx_catch hown (tableOf []) ⟨0, 5, 6, 37⟩ (tableOf []) (htab.trans rfl) (fun z hz => nomatch hz) (by decide) (by decide) w_0 (hXE.1.1.2.2.use rfl) h4a h4b h4c ?_
      refine W.eq (g2 := F0 m 6 ls [.ref a97]) rfl ?_
      refine lv_astore_n (lv' := [(2, .ref a97), (0, .ref a0), (1, .int p1)]) hx hb dL_tryWear_6 rfl hl (by decide) rfl (fun ls hl => ?_)
      refine lv_ldc (v := (-9999001)) hx hb hown w_1 dL_tryWear_7 ?_
      refine W.widen (k := 2) (n := 12) (Nat.le_of_ble_eq_true rfl) (Nat.le_of_ble_eq_true rfl) ?_
      refine vx_ret ?_
      exact W.iret (v := (-9999001)) hx hb hr (fun t ht hW => ⟨⟨(-9999001), (), rfl, hF, ⟨by rw [ht]; exact hP, hD⟩⟩, hS.F ht⟩) hS.2.2 dL_tryWear_9
  · have h4q : q1.1 = 0 := by rw [← eq1, h4]
    obtain rfl : q1.2 = v2 := by rw [← eq1, h4]
    have hP : va_P D vwCl [(a0, .inr (4, [.ref a1, .ref a2, .ref a3, .ref a4, .ref a5])), (a2, soF a6 a7 r), (a6, soV y r), (a7, soW y r)] H := hP
    have hD : va_D A [(a0, .inr (4, [.ref a1, .ref a2, .ref a3, .ref a4, .ref a5])), (a2, soF a6 a7 r), (a6, soV y r), (a7, soW y r)] := hD
    have hF := hF.trans (if_pos h4q)
    refine W.widen (k := 2) (n := 12) (Nat.le_of_ble_eq_true rfl) (Nat.le_of_ble_eq_true rfl) ?_
    refine vx_ret ?_
    exact W.iret (v := q1.2) hx hb hr (fun t ht hW => ⟨⟨q1.2, (), rfl, hF, ⟨by rw [ht]; exact hP, hD⟩⟩, hS.F ht⟩) hS.2.2 dL_tryWear_5

def f_L_trySetting (r : gR) (p1 : Int32) : Int32 :=
    gLet (f_X5_setting r p1) (fun (q1 : Nat × Int32) =>
    if q1.1 = 0 then
      q1.2
    else
      (-9999002))
theorem f_L_trySetting_s (r : gR) (p1 : Int32) : f_L_trySetting r p1 =
    (gLet (f_X5_setting r p1) (fun (q1 : Nat × Int32) =>
    if q1.1 = 0 then
      q1.2
    else
      (-9999002))) := rfl
theorem hd_L_trySetting : yL_trySetting.cls ≠ "java/lang/invoke/MethodHandle" ∧ yL_trySetting.cls ≠ "java/lang/invoke/VarHandle" ∧ (parseMethodDescriptor yL_trySetting.desc).map (fun d => d.parameters.length) = some 2 := by decide +kernel
set_option maxHeartbeats 4000000 in
set_option maxRecDepth 100000 in
theorem c_L_trySetting (l : Launch) (hst : l.stackTraces = false) (D : va_G) (y : Nat → ClassId) (a0 a1 a2 a3 a4 a5 a6 a7 : Nat) (zh : Nat) (r : gR) (p1 : Int32) (ho : okC r) : Met l yL_trySetting wsL_trySetting ({ frames := 8, cells := 2, slots := 12, locals := 123 }) (lP D y [.ref a0, .int p1] zh [(a0, .inr (4, [.ref a1, .ref a2, .ref a3, .ref a4, .ref a5])), (a2, soF a6 a7 r), (a6, soV y r), (a7, soW y r)]) (va_Qi (fun (v : Int32) (u : Unit) => f_L_trySetting r p1 = v) (fun (u : Unit) t => va_P D vwCl [(a0, .inr (4, [.ref a1, .ref a2, .ref a3, .ref a4, .ref a5])), (a2, soF a6 a7 r), (a6, soV y r), (a7, soW y r)] t.heap ∧ va_D (va_A [(a0, .inr (4, [.ref a1, .ref a2, .ref a3, .ref a4, .ref a5])), (a2, soF a6 a7 r), (a6, soV y r), (a7, soW y r)] zh) [(a0, .inr (4, [.ref a1, .ref a2, .ref a3, .ref a4, .ref a5])), (a2, soF a6 a7 r), (a6, soV y r), (a7, soW y r)]) (va_A [(a0, .inr (4, [.ref a1, .ref a2, .ref a3, .ref a4, .ref a5])), (a2, soF a6 a7 r), (a6, soV y r), (a7, soW y r)] zh)) 2 12 (va_A [(a0, .inr (4, [.ref a1, .ref a2, .ref a3, .ref a4, .ref a5])), (a2, soF a6 a7 r), (a6, soV y r), (a7, soW y r)] zh) := by
  refine xL_of (vx_ofWH (cc := cL_trySetting) (maxL := 3) (ret := (some .int)) (hh := [(0, 5, 6, 13)]) (by decide) rfl ?_)
  intro p e s m args below meth c s₁ B hml hv
  obtain ⟨⟨⟨rfl, hsz, hP, hE, hD⟩, hXE, hXZ⟩, hLN⟩ := hv
  have hx := B.exec
  have hb := B.bytes
  have hr := B.returns
  have hts := atoms_spec (ws := wsL_trySetting) B.pre
  have hown : s.vm.findClass RL = some m.cls := findClass_of_methodNamed B.named
  have hlocks := B.notSynchronized
  have htab := vx_table (x := yL_trySetting) B (hts _ List.mem_cons_self)
  have w_0 := hts (.classLink RL 13 "java/lang/IllegalArgumentException") (List.mem_cons_of_mem _ (List.mem_append_left _ (List.mem_append_left _ (List.mem_append_left _ (List.mem_of_getElem? (i := 0) rfl)))))
  have w_1 := hts (.constant RL 15 (-9999002)) (List.mem_cons_of_mem _ (List.mem_append_left _ (List.mem_append_left _ (List.mem_append_left _ (List.mem_of_getElem? (i := 1) rfl)))))
  subst hsz
  have hD := hD.self (sz := s.heap.size)
  generalize hAe : va_A [(a0, .inr (4, [.ref a1, .ref a2, .ref a3, .ref a4, .ref a5])), (a2, soF a6 a7 r), (a6, soV y r), (a7, soW y r)] s.heap.size = A at hD hXZ ⊢
  have hA : ∀ q : Nat, s.heap.size ≤ q → A q := fun q h => by rw [← hAe]; exact Or.inr h
  have hS : va_S A s.heap s.heap [] := va_S.rf
  have hl := lv_entry ([.ref a0, .int p1]) (n := 3) (Nat.le_of_ble_eq_true rfl)
  rw [lg_entry_eq]
  generalize (lg_sl ([.ref a0, .int p1]) ++ List.replicate (3 - (lg_sl ([.ref a0, .int p1])).length) Slot.unset).toArray = ls at hl ⊢
  have hl : lv_has ls 3 [(0, .ref a0), (1, .int p1)] := hl
  have hF := f_L_trySetting_s r p1
  refine lv_aload_n hx hb dL_trySetting_0 rfl (lv_at hl 0 rfl) ?_
  refine lv_iload_n hx hb dL_trySetting_1 rfl (lv_at hl 1 rfl) ?_
  obtain ⟨q1, eq1⟩ : ∃ z : Nat × Int32, f_X5_setting r p1 = z := ⟨_, rfl⟩
  have hF := hF.trans (gLet_e eq1)
  refine xq_calli (vx_runV (As := [.int p1]) (rest := []) ⟨hx, hb, hml, hown, hts⟩ (c_X5_setting l hst D y a0 a1 a2 a3 a4 a5 a6 a7 s.heap.size r p1 ho) (cwV 1 hts gL_trySetting_X5_setting rfl rfl rfl hd_X5_setting ⟨Nat.le_of_ble_eq_true rfl, Nat.le_of_ble_eq_true rfl⟩) (xV (q := (RX5, TX5, 5)) hE hXE hXZ hS hA hP hD 0 rfl rfl) rfl rfl hl.1 rfl (lv_room (Nat.le_of_ble_eq_true rfl)) dL_trySetting_2 ⟨Nat.le_of_ble_eq_true rfl, Nat.le_of_ble_eq_true rfl⟩) hP hD hS hA [0, 1, 2, 3] rfl (by decide) (fun _ => rfl) (fun E5 ce6 a97 u3 H locs h4 hP hD hS h4a h4b h4c => ?_) (fun v2 u3 H locs h4 hP hD hS => ?_)
  · have h4q : q1.1 = xc E5 := by rw [← eq1, h4.1]
    have hP : va_P D vwCl [(a0, .inr (4, [.ref a1, .ref a2, .ref a3, .ref a4, .ref a5])), (a2, soF a6 a7 r), (a6, soV y r), (a7, soW y r)] H := hP
    have hD : va_D A [(a0, .inr (4, [.ref a1, .ref a2, .ref a3, .ref a4, .ref a5])), (a2, soF a6 a7 r), (a6, soV y r), (a7, soW y r)] := hD
    rcases xc_E h4.2 with rfl | rfl | rfl
    · rw [xc_IA] at h4q
      have hF := hF.trans (if_neg (show ¬ q1.1 = 0 by rw [h4q]; decide))
      refine vx_catch hown (tableOf []) ⟨0, 5, 6, 13⟩ (tableOf []) (htab.trans rfl) (fun z hz => nomatch hz) (by decide) (by decide) w_0 (hXE.1.1.1.use rfl) h4a h4b h4c ?_
      refine W.eq (g2 := F0 m 6 ls [.ref a97]) rfl ?_
      refine lv_astore_n (lv' := [(2, .ref a97), (0, .ref a0), (1, .int p1)]) hx hb dL_trySetting_6 rfl hl (by decide) rfl (fun ls hl => ?_)
      refine lv_ldc (v := (-9999002)) hx hb hown w_1 dL_trySetting_7 ?_
      refine W.widen (k := 2) (n := 12) (Nat.le_of_ble_eq_true rfl) (Nat.le_of_ble_eq_true rfl) ?_
      refine vx_ret ?_
      exact W.iret (v := (-9999002)) hx hb hr (fun t ht hW => ⟨⟨(-9999002), (), rfl, hF, ⟨by rw [ht]; exact hP, hD⟩⟩, hS.F ht⟩) hS.2.2 dL_trySetting_9
    · rw [xc_IS] at h4q
      have hc := cd_X5_setting r p1
      rw [eq1, h4q] at hc
      exact absurd hc (by decide)
    · rw [xc_IO] at h4q
      have hc := cd_X5_setting r p1
      rw [eq1, h4q] at hc
      exact absurd hc (by decide)
  · have h4q : q1.1 = 0 := by rw [← eq1, h4]
    obtain rfl : q1.2 = v2 := by rw [← eq1, h4]
    have hP : va_P D vwCl [(a0, .inr (4, [.ref a1, .ref a2, .ref a3, .ref a4, .ref a5])), (a2, soF a6 a7 r), (a6, soV y r), (a7, soW y r)] H := hP
    have hD : va_D A [(a0, .inr (4, [.ref a1, .ref a2, .ref a3, .ref a4, .ref a5])), (a2, soF a6 a7 r), (a6, soV y r), (a7, soW y r)] := hD
    have hF := hF.trans (if_pos h4q)
    refine W.widen (k := 2) (n := 12) (Nat.le_of_ble_eq_true rfl) (Nat.le_of_ble_eq_true rfl) ?_
    refine vx_ret ?_
    exact W.iret (v := q1.2) hx hb hr (fun t ht hW => ⟨⟨q1.2, (), rfl, hF, ⟨by rw [ht]; exact hP, hD⟩⟩, hS.F ht⟩) hS.2.2 dL_trySetting_5
