/-! THE LAW'S OWN METHODS -/
theorem xa_tlP {D : va_G} {cl : List vw_C} {q : Nat × va_E} {wc : va_W} {H : Heap} (h : va_P D cl (q :: wc) H) : va_P D cl wc H := fun k z hz => h (k + 1) z hz
theorem xa_tlD {A : Nat → Prop} {q : Nat × va_E} {wc : va_W} (h : va_D A (q :: wc)) : va_D A wc := ⟨fun i j a b ha hb e => Nat.succ.inj (h.1 (i + 1) (j + 1) a b ha hb e), fun k z hz => h.2 (k + 1) z hz⟩
theorem cd_sub {k : Nat} {a b : List Nat} (h : ∀ x ∈ a, x ∈ b) (hk : k ∈ a) : k ∈ b := h k hk
theorem cd_X5_append (tn : Int32) (tf : Nat → Int32) (p0 : Int32) : (f_X5_append tn tf p0).1 ∈ [0, 1, 2] := by
  rw [f_X5_append_s]
  refine gIf_i (P := fun z : Nat × Int32 × Int32 × (Nat → Int32) => z.1 ∈ [0, 1, 2]) (fun c1 => ?_) (fun c1 => ?_)
  · exact (show (1 : Nat) ∈ [0, 1, 2] by decide)
  · refine gIf_i (P := fun z : Nat × Int32 × Int32 × (Nat → Int32) => z.1 ∈ [0, 1, 2]) (fun c2 => ?_) (fun c2 => ?_)
    · refine gLet_i (P := fun z : Nat × Int32 × Int32 × (Nat → Int32) => z.1 ∈ [0, 1, 2]) (fun v5 ev5 => ?_)
      refine gIf_i (P := fun z : Nat × Int32 × Int32 × (Nat → Int32) => z.1 ∈ [0, 1, 2]) (fun c3 => ?_) (fun c3 => ?_)
      · refine gLet_i (P := fun z : Nat × Int32 × Int32 × (Nat → Int32) => z.1 ∈ [0, 1, 2]) (fun q10 eq10 => ?_)
        exact (show (0 : Nat) ∈ [0, 1, 2] by decide)
      · exact (show (2 : Nat) ∈ [0, 1, 2] by decide)
    · exact (show (1 : Nat) ∈ [0, 1, 2] by decide)
theorem cd_X5_load (tn : Int32) (tf : Nat → Int32) (r : gR) (qz : Int32) (qn : Int32) (lfl : Nat → Int32) : (f_X5_load tn tf r qz qn lfl).1 ∈ [0, 2] := by
  rw [f_X5_load_s]
  refine gLet_i (P := fun z : Nat × Int32 × gR × Int32 × (Nat → Int32) => z.1 ∈ [0, 2]) (fun v2 ev2 => ?_)
  refine gIf_i (P := fun z : Nat × Int32 × gR × Int32 × (Nat → Int32) => z.1 ∈ [0, 2]) (fun c1 => ?_) (fun c1 => ?_)
  · refine gLet_i (P := fun z : Nat × Int32 × gR × Int32 × (Nat → Int32) => z.1 ∈ [0, 2]) (fun u5 eu5 => ?_)
    refine gLet_i (P := fun z : Nat × Int32 × gR × Int32 × (Nat → Int32) => z.1 ∈ [0, 2]) (fun u7 eu7 => ?_)
    refine gLet_i (P := fun z : Nat × Int32 × gR × Int32 × (Nat → Int32) => z.1 ∈ [0, 2]) (fun u9 eu9 => ?_)
    refine gLet_i (P := fun z : Nat × Int32 × gR × Int32 × (Nat → Int32) => z.1 ∈ [0, 2]) (fun q13 eq13 => ?_)
    exact (show (0 : Nat) ∈ [0, 2] by decide)
  · exact (show (2 : Nat) ∈ [0, 2] by decide)
theorem cd_X5_about (r : gR) (p0 : Int32) : (f_X5_about r p0).1 ∈ [0, 1] := by
  rw [f_X5_about_s]
  refine gIf_i (P := fun z : Nat × Int32 => z.1 ∈ [0, 1]) (fun c1 => ?_) (fun c1 => ?_)
  · exact (show (1 : Nat) ∈ [0, 1] by decide)
  · refine gIf_i (P := fun z : Nat × Int32 => z.1 ∈ [0, 1]) (fun c2 => ?_) (fun c2 => ?_)
    · refine gLet_i (P := fun z : Nat × Int32 => z.1 ∈ [0, 1]) (fun v5 ev5 => ?_)
      exact (show (0 : Nat) ∈ [0, 1] by decide)
    · exact (show (1 : Nat) ∈ [0, 1] by decide)
theorem cd_X5_requireLine (r : gR) (p0 : Int32) : (f_X5_requireLine r p0) ∈ [0, 3] := by
  rw [f_X5_requireLine_s]
  refine gLet_i (P := fun z : Nat => z ∈ [0, 3]) (fun v2 ev2 => ?_)
  refine gIf_i (P := fun z : Nat => z ∈ [0, 3]) (fun c1 => ?_) (fun c1 => ?_)
  · exact (show (3 : Nat) ∈ [0, 3] by decide)
  · exact (show (0 : Nat) ∈ [0, 3] by decide)
theorem cd_X5_read (r : gR) (p0 : Int32) : (f_X5_read r p0).1 ∈ [0, 3] := by
  rw [f_X5_read_s]
  refine gLet_i (P := fun z : Nat × Int32 => z.1 ∈ [0, 3]) (fun n1 en1 => ?_)
  refine gIf_i (P := fun z : Nat × Int32 => z.1 ∈ [0, 3]) (fun c1 => ?_) (fun c1 => ?_)
  · refine gLet_i (P := fun z : Nat × Int32 => z.1 ∈ [0, 3]) (fun v7 ev7 => ?_)
    exact (show (0 : Nat) ∈ [0, 3] by decide)
  · exact cd_sub (a := [0, 3]) (by decide) (by rw [← en1]; exact cd_X5_requireLine _ _)
theorem cd_X5_place (r : gR) (p0 : Int32) : (f_X5_place r p0).1 ∈ [0, 3] := by
  rw [f_X5_place_s]
  refine gLet_i (P := fun z : Nat × Int32 => z.1 ∈ [0, 3]) (fun n1 en1 => ?_)
  refine gIf_i (P := fun z : Nat × Int32 => z.1 ∈ [0, 3]) (fun c1 => ?_) (fun c1 => ?_)
  · refine gLet_i (P := fun z : Nat × Int32 => z.1 ∈ [0, 3]) (fun v7 ev7 => ?_)
    exact (show (0 : Nat) ∈ [0, 3] by decide)
  · exact cd_sub (a := [0, 3]) (by decide) (by rw [← en1]; exact cd_X5_requireLine _ _)
theorem cd_X5_requirePlace (r : gR) (p0 : Int32) : (f_X5_requirePlace r p0) ∈ [0, 3] := by
  rw [f_X5_requirePlace_s]
  refine gLet_i (P := fun z : Nat => z ∈ [0, 3]) (fun v2 ev2 => ?_)
  refine gIf_i (P := fun z : Nat => z ∈ [0, 3]) (fun c1 => ?_) (fun c1 => ?_)
  · exact (show (3 : Nat) ∈ [0, 3] by decide)
  · exact (show (0 : Nat) ∈ [0, 3] by decide)
theorem cd_X5_line (r : gR) (p0 : Int32) : (f_X5_line r p0).1 ∈ [0, 3] := by
  rw [f_X5_line_s]
  refine gLet_i (P := fun z : Nat × Int32 => z.1 ∈ [0, 3]) (fun n1 en1 => ?_)
  refine gIf_i (P := fun z : Nat × Int32 => z.1 ∈ [0, 3]) (fun c1 => ?_) (fun c1 => ?_)
  · refine gLet_i (P := fun z : Nat × Int32 => z.1 ∈ [0, 3]) (fun v7 ev7 => ?_)
    exact (show (0 : Nat) ∈ [0, 3] by decide)
  · exact cd_sub (a := [0, 3]) (by decide) (by rw [← en1]; exact cd_X5_requirePlace _ _)
theorem cd_X5_wear (r : gR) (p0 : Int32) : (f_X5_wear r p0).1 ∈ [0, 3] := by
  rw [f_X5_wear_s]
  refine gLet_i (P := fun z : Nat × Int32 => z.1 ∈ [0, 3]) (fun n1 en1 => ?_)
  refine gIf_i (P := fun z : Nat × Int32 => z.1 ∈ [0, 3]) (fun c1 => ?_) (fun c1 => ?_)
  · refine gLet_i (P := fun z : Nat × Int32 => z.1 ∈ [0, 3]) (fun v7 ev7 => ?_)
    exact (show (0 : Nat) ∈ [0, 3] by decide)
  · exact cd_sub (a := [0, 3]) (by decide) (by rw [← en1]; exact cd_X5_requirePlace _ _)
theorem cd_X5_requireSetting (p0 : Int32) : (f_X5_requireSetting p0) ∈ [0, 1] := by
  rw [f_X5_requireSetting_s]
  refine gIf_i (P := fun z : Nat => z ∈ [0, 1]) (fun c1 => ?_) (fun c1 => ?_)
  · exact (show (0 : Nat) ∈ [0, 1] by decide)
  · refine gIf_i (P := fun z : Nat => z ∈ [0, 1]) (fun c2 => ?_) (fun c2 => ?_)
    · exact (show (0 : Nat) ∈ [0, 1] by decide)
    · exact (show (1 : Nat) ∈ [0, 1] by decide)
theorem cd_X5_setting (r : gR) (p0 : Int32) : (f_X5_setting r p0).1 ∈ [0, 1] := by
  rw [f_X5_setting_s]
  refine gLet_i (P := fun z : Nat × Int32 => z.1 ∈ [0, 1]) (fun n1 en1 => ?_)
  refine gIf_i (P := fun z : Nat × Int32 => z.1 ∈ [0, 1]) (fun c1 => ?_) (fun c1 => ?_)
  · refine gLet_i (P := fun z : Nat × Int32 => z.1 ∈ [0, 1]) (fun v7 ev7 => ?_)
    exact (show (0 : Nat) ∈ [0, 1] by decide)
  · exact cd_sub (a := [0, 1]) (by decide) (by rw [← en1]; exact cd_X5_requireSetting _)
theorem cd_X5_make (tn : Int32) (tf : Nat → Int32) (r : gR) (rc : gR) (qz : Int32) (qn : Int32) (hq : Nat → Option gR) (lq : Nat → Option gR) (lfl : Nat → Int32) (p0 : Int32) (p1 : Int32) (p2 : Int32) : (f_X5_make tn tf r rc qz qn hq lq lfl p0 p1 p2).1 ∈ [0, 1] := by
  rw [f_X5_make_s]
  refine gLet_i (P := fun z : Nat × Int32 × gR × (Nat → Option gR) × Int32 × Int32 => z.1 ∈ [0, 1]) (fun v2 ev2 => ?_)
  refine gIf_i (P := fun z : Nat × Int32 × gR × (Nat → Option gR) × Int32 × Int32 => z.1 ∈ [0, 1]) (fun c1 => ?_) (fun c1 => ?_)
  · exact (show (1 : Nat) ∈ [0, 1] by decide)
  · refine gIf_i (P := fun z : Nat × Int32 × gR × (Nat → Option gR) × Int32 × Int32 => z.1 ∈ [0, 1]) (fun c2 => ?_) (fun c2 => ?_)
    · exact (show (1 : Nat) ∈ [0, 1] by decide)
    · refine gIf_i (P := fun z : Nat × Int32 × gR × (Nat → Option gR) × Int32 × Int32 => z.1 ∈ [0, 1]) (fun c3 => ?_) (fun c3 => ?_)
      · refine gLet_i (P := fun z : Nat × Int32 × gR × (Nat → Option gR) × Int32 × Int32 => z.1 ∈ [0, 1]) (fun u8 eu8 => ?_)
        refine gLet_i (P := fun z : Nat × Int32 × gR × (Nat → Option gR) × Int32 × Int32 => z.1 ∈ [0, 1]) (fun u13 eu13 => ?_)
        refine gLet_i (P := fun z : Nat × Int32 × gR × (Nat → Option gR) × Int32 × Int32 => z.1 ∈ [0, 1]) (fun v15 ev15 => ?_)
        exact (show (0 : Nat) ∈ [0, 1] by decide)
      · exact (show (1 : Nat) ∈ [0, 1] by decide)
theorem cd_X5_write (tn : Int32) (tf : Nat → Int32) (r : gR) (rc : gR) (qz : Int32) (qn : Int32) (hq : Nat → Option gR) (lq : Nat → Option gR) (lfl : Nat → Int32) (p0 : Int32) (p1 : Int32) : (f_X5_write tn tf r rc qz qn hq lq lfl p0 p1).1 ∈ [0, 1, 2, 3] := by
  rw [f_X5_write_s]
  refine gLet_i (P := fun z : Nat × Int32 × gR × (Nat → Option gR) × Int32 × Int32 => z.1 ∈ [0, 1, 2, 3]) (fun n1 en1 => ?_)
  refine gIf_i (P := fun z : Nat × Int32 × gR × (Nat → Option gR) × Int32 × Int32 => z.1 ∈ [0, 1, 2, 3]) (fun c1 => ?_) (fun c1 => ?_)
  · refine gLet_i (P := fun z : Nat × Int32 × gR × (Nat → Option gR) × Int32 × Int32 => z.1 ∈ [0, 1, 2, 3]) (fun v7 ev7 => ?_)
    refine gIf_i (P := fun z : Nat × Int32 × gR × (Nat → Option gR) × Int32 × Int32 => z.1 ∈ [0, 1, 2, 3]) (fun c2 => ?_) (fun c2 => ?_)
    · exact (show (1 : Nat) ∈ [0, 1, 2, 3] by decide)
    · refine gIf_i (P := fun z : Nat × Int32 × gR × (Nat → Option gR) × Int32 × Int32 => z.1 ∈ [0, 1, 2, 3]) (fun c3 => ?_) (fun c3 => ?_)
      · refine gLet_i (P := fun z : Nat × Int32 × gR × (Nat → Option gR) × Int32 × Int32 => z.1 ∈ [0, 1, 2, 3]) (fun u11 eu11 => ?_)
        refine gLet_i (P := fun z : Nat × Int32 × gR × (Nat → Option gR) × Int32 × Int32 => z.1 ∈ [0, 1, 2, 3]) (fun q18 eq18 => ?_)
        exact (show (0 : Nat) ∈ [0, 1, 2, 3] by decide)
      · exact (show (2 : Nat) ∈ [0, 1, 2, 3] by decide)
  · exact cd_sub (a := [0, 3]) (by decide) (by rw [← en1]; exact cd_X5_requireLine _ _)
theorem cd_X5_requireHammered (p0 : Int32) : (f_X5_requireHammered p0) ∈ [0, 1] := by
  rw [f_X5_requireHammered_s]
  refine gLet_i (P := fun z : Nat => z ∈ [0, 1]) (fun v2 ev2 => ?_)
  refine gIf_i (P := fun z : Nat => z ∈ [0, 1]) (fun c1 => ?_) (fun c1 => ?_)
  · exact (show (1 : Nat) ∈ [0, 1] by decide)
  · exact (show (0 : Nat) ∈ [0, 1] by decide)
theorem cd_X5_hammer (tn : Int32) (tf : Nat → Int32) (r : gR) (rc : gR) (qz : Int32) (qn : Int32) (hq : Nat → Option gR) (lq : Nat → Option gR) (lfl : Nat → Int32) (p0 : Int32) (p1 : Int32) : (f_X5_hammer tn tf r rc qz qn hq lq lfl p0 p1).1 ∈ [0, 1, 3] := by
  rw [f_X5_hammer_s]
  refine gLet_i (P := fun z : Nat × Int32 × gR × (Nat → Option gR) × Int32 × Int32 => z.1 ∈ [0, 1, 3]) (fun n1 en1 => ?_)
  refine gIf_i (P := fun z : Nat × Int32 × gR × (Nat → Option gR) × Int32 × Int32 => z.1 ∈ [0, 1, 3]) (fun c1 => ?_) (fun c1 => ?_)
  · refine gLet_i (P := fun z : Nat × Int32 × gR × (Nat → Option gR) × Int32 × Int32 => z.1 ∈ [0, 1, 3]) (fun n6 en6 => ?_)
    refine gIf_i (P := fun z : Nat × Int32 × gR × (Nat → Option gR) × Int32 × Int32 => z.1 ∈ [0, 1, 3]) (fun c2 => ?_) (fun c2 => ?_)
    · refine gLet_i (P := fun z : Nat × Int32 × gR × (Nat → Option gR) × Int32 × Int32 => z.1 ∈ [0, 1, 3]) (fun u12 eu12 => ?_)
      refine gLet_i (P := fun z : Nat × Int32 × gR × (Nat → Option gR) × Int32 × Int32 => z.1 ∈ [0, 1, 3]) (fun q19 eq19 => ?_)
      exact (show (0 : Nat) ∈ [0, 1, 3] by decide)
    · exact cd_sub (a := [0, 1]) (by decide) (by rw [← en6]; exact cd_X5_requireHammered _)
  · exact cd_sub (a := [0, 3]) (by decide) (by rw [← en1]; exact cd_X5_requireLine _ _)
theorem cd_X5_requireStore (r : gR) : (f_X5_requireStore r) ∈ [0, 2] := by
  rw [f_X5_requireStore_s]
  refine gLet_i (P := fun z : Nat => z ∈ [0, 2]) (fun v2 ev2 => ?_)
  refine gIf_i (P := fun z : Nat => z ∈ [0, 2]) (fun c1 => ?_) (fun c1 => ?_)
  · exact (show (2 : Nat) ∈ [0, 2] by decide)
  · exact (show (0 : Nat) ∈ [0, 2] by decide)
theorem cd_X5_all (tn : Int32) (tf : Nat → Int32) (r : gR) (rc : gR) (qz : Int32) (qn : Int32) (hq : Nat → Option gR) (lq : Nat → Option gR) (lfl : Nat → Int32) (p0 : Int32) : (f_X5_all tn tf r rc qz qn hq lq lfl p0).1 ∈ [0, 1, 2] := by
  rw [f_X5_all_s]
  refine gLet_i (P := fun z : Nat × Int32 × gR × (Nat → Option gR) × Int32 × Int32 => z.1 ∈ [0, 1, 2]) (fun v2 ev2 => ?_)
  refine gIf_i (P := fun z : Nat × Int32 × gR × (Nat → Option gR) × Int32 × Int32 => z.1 ∈ [0, 1, 2]) (fun c1 => ?_) (fun c1 => ?_)
  · exact (show (1 : Nat) ∈ [0, 1, 2] by decide)
  · refine gLet_i (P := fun z : Nat × Int32 × gR × (Nat → Option gR) × Int32 × Int32 => z.1 ∈ [0, 1, 2]) (fun n4 en4 => ?_)
    refine gIf_i (P := fun z : Nat × Int32 × gR × (Nat → Option gR) × Int32 × Int32 => z.1 ∈ [0, 1, 2]) (fun c2 => ?_) (fun c2 => ?_)
    · refine gLet_i (P := fun z : Nat × Int32 × gR × (Nat → Option gR) × Int32 × Int32 => z.1 ∈ [0, 1, 2]) (fun u10 eu10 => ?_)
      refine gLet_i (P := fun z : Nat × Int32 × gR × (Nat → Option gR) × Int32 × Int32 => z.1 ∈ [0, 1, 2]) (fun q17 eq17 => ?_)
      exact (show (0 : Nat) ∈ [0, 1, 2] by decide)
    · exact cd_sub (a := [0, 2]) (by decide) (by rw [← en4]; exact cd_X5_requireStore _)
theorem cd_X5_set (tn : Int32) (tf : Nat → Int32) (r : gR) (rc : gR) (qz : Int32) (qn : Int32) (hq : Nat → Option gR) (lq : Nat → Option gR) (lfl : Nat → Int32) (p0 : Int32) (p1 : Int32) : (f_X5_set tn tf r rc qz qn hq lq lfl p0 p1).1 ∈ [0, 1] := by
  rw [f_X5_set_s]
  refine gLet_i (P := fun z : Nat × Int32 × gR × (Nat → Option gR) × Int32 × Int32 => z.1 ∈ [0, 1]) (fun v2 ev2 => ?_)
  refine gIf_i (P := fun z : Nat × Int32 × gR × (Nat → Option gR) × Int32 × Int32 => z.1 ∈ [0, 1]) (fun c1 => ?_) (fun c1 => ?_)
  · exact (show (1 : Nat) ∈ [0, 1] by decide)
  · refine gLet_i (P := fun z : Nat × Int32 × gR × (Nat → Option gR) × Int32 × Int32 => z.1 ∈ [0, 1]) (fun u5 eu5 => ?_)
    refine gLet_i (P := fun z : Nat × Int32 × gR × (Nat → Option gR) × Int32 × Int32 => z.1 ∈ [0, 1]) (fun v10 ev10 => ?_)
    refine gLet_i (P := fun z : Nat × Int32 × gR × (Nat → Option gR) × Int32 × Int32 => z.1 ∈ [0, 1]) (fun u12 eu12 => ?_)
    exact (show (0 : Nat) ∈ [0, 1] by decide)
theorem cd_X5_undo (tn : Int32) (tf : Nat → Int32) (r : gR) (rc : gR) (qz : Int32) (qn : Int32) (hq : Nat → Option gR) (lq : Nat → Option gR) (lfl : Nat → Int32) : (f_X5_undo tn tf r rc qz qn hq lq lfl).1 ∈ [0, 2] := by
  rw [f_X5_undo_s]
  refine gLet_i (P := fun z : Nat × Int32 × gR × Int32 × Int32 => z.1 ∈ [0, 2]) (fun q6 eq6 => ?_)
  refine gIf_i (P := fun z : Nat × Int32 × gR × Int32 × Int32 => z.1 ∈ [0, 2]) (fun c1 => ?_) (fun c1 => ?_)
  · exact (show (2 : Nat) ∈ [0, 2] by decide)
  · refine gLet_i (P := fun z : Nat × Int32 × gR × Int32 × Int32 => z.1 ∈ [0, 2]) (fun v10 ev10 => ?_)
    exact (show (0 : Nat) ∈ [0, 2] by decide)
theorem cd_X5_life (r : gR) (rc : gR) (p0 : Int32) : (f_X5_life r rc p0).1 ∈ [0, 3] := by
  rw [f_X5_life_s]
  refine gLet_i (P := fun z : Nat × Int32 × gR => z.1 ∈ [0, 3]) (fun n1 en1 => ?_)
  refine gIf_i (P := fun z : Nat × Int32 × gR => z.1 ∈ [0, 3]) (fun c1 => ?_) (fun c1 => ?_)
  · refine gLet_i (P := fun z : Nat × Int32 × gR => z.1 ∈ [0, 3]) (fun q11 eq11 => ?_)
    exact (show (0 : Nat) ∈ [0, 3] by decide)
  · exact cd_sub (a := [0, 3]) (by decide) (by rw [← en1]; exact cd_X5_requireLine _ _)
theorem cd_X5_lifeOfAll (r : gR) (rc : gR) : (f_X5_lifeOfAll r rc).1 ∈ [0, 2] := by
  rw [f_X5_lifeOfAll_s]
  refine gLet_i (P := fun z : Nat × Int32 × gR => z.1 ∈ [0, 2]) (fun n1 en1 => ?_)
  refine gIf_i (P := fun z : Nat × Int32 × gR => z.1 ∈ [0, 2]) (fun c1 => ?_) (fun c1 => ?_)
  · refine gLet_i (P := fun z : Nat × Int32 × gR => z.1 ∈ [0, 2]) (fun q11 eq11 => ?_)
    exact (show (0 : Nat) ∈ [0, 2] by decide)
  · exact cd_sub (a := [0, 2]) (by decide) (by rw [← en1]; exact cd_X5_requireStore _)
theorem cd_X5_ifEvery (r : gR) (rc : gR) (p0 : Int32) (p1 : Int32) (p2 : Int32) : (f_X5_ifEvery r rc p0 p1 p2).1 ∈ [0, 1, 3] := by
  rw [f_X5_ifEvery_s]
  refine gLet_i (P := fun z : Nat × Int32 × gR => z.1 ∈ [0, 1, 3]) (fun n1 en1 => ?_)
  refine gIf_i (P := fun z : Nat × Int32 × gR => z.1 ∈ [0, 1, 3]) (fun c1 => ?_) (fun c1 => ?_)
  · refine gIf_i (P := fun z : Nat × Int32 × gR => z.1 ∈ [0, 1, 3]) (fun c2 => ?_) (fun c2 => ?_)
    · exact (show (1 : Nat) ∈ [0, 1, 3] by decide)
    · refine gIf_i (P := fun z : Nat × Int32 × gR => z.1 ∈ [0, 1, 3]) (fun c3 => ?_) (fun c3 => ?_)
      · refine gLet_i (P := fun z : Nat × Int32 × gR => z.1 ∈ [0, 1, 3]) (fun n9 en9 => ?_)
        refine gIf_i (P := fun z : Nat × Int32 × gR => z.1 ∈ [0, 1, 3]) (fun c4 => ?_) (fun c4 => ?_)
        · refine gLet_i (P := fun z : Nat × Int32 × gR => z.1 ∈ [0, 1, 3]) (fun q17 eq17 => ?_)
          exact (show (0 : Nat) ∈ [0, 1, 3] by decide)
        · exact cd_sub (a := [0, 1]) (by decide) (by rw [← en9]; exact cd_X5_requireHammered _)
      · exact (show (1 : Nat) ∈ [0, 1, 3] by decide)
  · exact cd_sub (a := [0, 3]) (by decide) (by rw [← en1]; exact cd_X5_requireLine _ _)
theorem cd_X5_bestEvery_L25 (r : gR) (p0 : Int32) (p1 : Int32) : ∀ (n : Nat) (x3 : Int32) (x4 : Int32) (x5 : Int32) (rc_ : gR), (f_X5_bestEvery_L25 r p0 p1 n x3 x4 x5 rc_).1 ∈ [0, 1, 3]
  | 0, _, _, _, _ => (show (0 : Nat) ∈ [0, 1, 3] by decide)
  | n + 1, x3, x4, x5, rc_ => by
    rw [f_X5_bestEvery_L25_s]
    refine gIf_i (P := fun z : Nat × Int32 × gR => z.1 ∈ [0, 1, 3]) (fun c1 => ?_) (fun c1 => ?_)
    · exact (show (0 : Nat) ∈ [0, 1, 3] by decide)
    · refine gLet_i (P := fun z : Nat × Int32 × gR => z.1 ∈ [0, 1, 3]) (fun q5 eq5 => ?_)
      refine gIf_i (P := fun z : Nat × Int32 × gR => z.1 ∈ [0, 1, 3]) (fun c2 => ?_) (fun c2 => ?_)
      · exact cd_X5_bestEvery_L25 _ _ _ _ _ _ _ _
      · exact cd_X5_bestEvery_L25 _ _ _ _ _ _ _ _
theorem cd_X5_bestEvery (r : gR) (rc : gR) (p0 : Int32) (p1 : Int32) : (f_X5_bestEvery r rc p0 p1).1 ∈ [0, 1, 3] := by
  rw [f_X5_bestEvery_s]
  refine gLet_i (P := fun z : Nat × Int32 × gR => z.1 ∈ [0, 1, 3]) (fun n7 en7 => ?_)
  refine gIf_i (P := fun z : Nat × Int32 × gR => z.1 ∈ [0, 1, 3]) (fun c1 => ?_) (fun c1 => ?_)
  · refine gLet_i (P := fun z : Nat × Int32 × gR => z.1 ∈ [0, 1, 3]) (fun n12 en12 => ?_)
    refine gIf_i (P := fun z : Nat × Int32 × gR => z.1 ∈ [0, 1, 3]) (fun c2 => ?_) (fun c2 => ?_)
    · refine gLet_i (P := fun z : Nat × Int32 × gR => z.1 ∈ [0, 1, 3]) (fun q20 eq20 => ?_)
      exact cd_X5_bestEvery_L25 _ _ _ _ _ _ _ _
    · exact cd_sub (a := [0, 1]) (by decide) (by rw [← en12]; exact cd_X5_requireHammered _)
  · exact cd_sub (a := [0, 3]) (by decide) (by rw [← en7]; exact cd_X5_requireLine _ _)
theorem cd_X5_movesTo (r : gR) (p0 : Int32) : (f_X5_movesTo r p0).1 ∈ [0, 3] := by
  rw [f_X5_movesTo_s]
  refine gLet_i (P := fun z : Nat × Int32 => z.1 ∈ [0, 3]) (fun n1 en1 => ?_)
  refine gIf_i (P := fun z : Nat × Int32 => z.1 ∈ [0, 3]) (fun c1 => ?_) (fun c1 => ?_)
  · refine gLet_i (P := fun z : Nat × Int32 => z.1 ∈ [0, 3]) (fun v7 ev7 => ?_)
    exact (show (0 : Nat) ∈ [0, 3] by decide)
  · exact cd_sub (a := [0, 3]) (by decide) (by rw [← en1]; exact cd_X5_requireLine _ _)
theorem cd_X5_placeBehind (r : gR) (p0 : Int32) (p1 : Int32) : (f_X5_placeBehind r p0 p1).1 ∈ [0, 1, 3] := by
  rw [f_X5_placeBehind_s]
  refine gLet_i (P := fun z : Nat × Int32 => z.1 ∈ [0, 1, 3]) (fun n1 en1 => ?_)
  refine gIf_i (P := fun z : Nat × Int32 => z.1 ∈ [0, 1, 3]) (fun c1 => ?_) (fun c1 => ?_)
  · refine gIf_i (P := fun z : Nat × Int32 => z.1 ∈ [0, 1, 3]) (fun c2 => ?_) (fun c2 => ?_)
    · exact (show (1 : Nat) ∈ [0, 1, 3] by decide)
    · refine gIf_i (P := fun z : Nat × Int32 => z.1 ∈ [0, 1, 3]) (fun c3 => ?_) (fun c3 => ?_)
      · refine gLet_i (P := fun z : Nat × Int32 => z.1 ∈ [0, 1, 3]) (fun v10 ev10 => ?_)
        exact (show (0 : Nat) ∈ [0, 1, 3] by decide)
      · exact (show (1 : Nat) ∈ [0, 1, 3] by decide)
  · exact cd_sub (a := [0, 3]) (by decide) (by rw [← en1]; exact cd_X5_requireLine _ _)
theorem cd_X5_runScript_L60 (p0 : Int32) (p1 : Int64) : ∀ (n : Nat) (x4 : Int32) (rc_ : gR), (f_X5_runScript_L60 p0 p1 n x4 rc_).1 ∈ [0, 1]
  | 0, _, _ => (show (0 : Nat) ∈ [0, 1] by decide)
  | n + 1, x4, rc_ => by
    rw [f_X5_runScript_L60_s]
    refine gIf_i (P := fun z : Nat × Int32 × gR => z.1 ∈ [0, 1]) (fun c1 => ?_) (fun c1 => ?_)
    · exact (show (0 : Nat) ∈ [0, 1] by decide)
    · refine gLet_i (P := fun z : Nat × Int32 × gR => z.1 ∈ [0, 1]) (fun v3 ev3 => ?_)
      refine gLet_i (P := fun z : Nat × Int32 × gR => z.1 ∈ [0, 1]) (fun v4 ev4 => ?_)
      refine gLet_i (P := fun z : Nat × Int32 × gR => z.1 ∈ [0, 1]) (fun v5 ev5 => ?_)
      refine gLet_i (P := fun z : Nat × Int32 × gR => z.1 ∈ [0, 1]) (fun q9 eq9 => ?_)
      refine gIf_i (P := fun z : Nat × Int32 × gR => z.1 ∈ [0, 1]) (fun c2 => ?_) (fun c2 => ?_)
      · exact (show (0 : Nat) ∈ [0, 1] by decide)
      · exact cd_X5_runScript_L60 _ _ _ _ _
theorem cd_X5_runScript (r : gR) (rc : gR) (p0 : Int32) (p1 : Int64) : (f_X5_runScript r rc p0 p1).1 ∈ [0, 1] := by
  rw [f_X5_runScript_s]
  refine gIf_i (P := fun z : Nat × Int32 × gR => z.1 ∈ [0, 1]) (fun c1 => ?_) (fun c1 => ?_)
  · exact (show (1 : Nat) ∈ [0, 1] by decide)
  · refine gIf_i (P := fun z : Nat × Int32 × gR => z.1 ∈ [0, 1]) (fun c2 => ?_) (fun c2 => ?_)
    · refine gIf_i (P := fun z : Nat × Int32 × gR => z.1 ∈ [0, 1]) (fun c3 => ?_) (fun c3 => ?_)
      · exact (show (1 : Nat) ∈ [0, 1] by decide)
      · refine gLet_i (P := fun z : Nat × Int32 × gR => z.1 ∈ [0, 1]) (fun v17 ev17 => ?_)
        refine gIf_i (P := fun z : Nat × Int32 × gR => z.1 ∈ [0, 1]) (fun c4 => ?_) (fun c4 => ?_)
        · exact cd_X5_runScript_L60 _ _ _ _ _
        · exact (show (1 : Nat) ∈ [0, 1] by decide)
    · exact (show (1 : Nat) ∈ [0, 1] by decide)
theorem cd_X5_simulate (r : gR) (rc : gR) (p0 : Int64) (p1 : Int32) : (f_X5_simulate r rc p0 p1).1 ∈ [0, 1] := by
  rw [f_X5_simulate_s]
  refine gIf_i (P := fun z : Nat × Int32 × gR => z.1 ∈ [0, 1]) (fun c1 => ?_) (fun c1 => ?_)
  · exact (show (1 : Nat) ∈ [0, 1] by decide)
  · refine gIf_i (P := fun z : Nat × Int32 × gR => z.1 ∈ [0, 1]) (fun c2 => ?_) (fun c2 => ?_)
    · refine gLet_i (P := fun z : Nat × Int32 × gR => z.1 ∈ [0, 1]) (fun v5 ev5 => ?_)
      refine gIf_i (P := fun z : Nat × Int32 × gR => z.1 ∈ [0, 1]) (fun c3 => ?_) (fun c3 => ?_)
      · exact (show (0 : Nat) ∈ [0, 1] by decide)
      · refine gLet_i (P := fun z : Nat × Int32 × gR => z.1 ∈ [0, 1]) (fun u10 eu10 => ?_)
        refine gLet_i (P := fun z : Nat × Int32 × gR => z.1 ∈ [0, 1]) (fun v12 ev12 => ?_)
        exact (show (0 : Nat) ∈ [0, 1] by decide)
    · exact (show (1 : Nat) ∈ [0, 1] by decide)
theorem cd_X5_requireSlot (p0 : Int32) : (f_X5_requireSlot p0) ∈ [0, 3] := by
  rw [f_X5_requireSlot_s]
  refine gLet_i (P := fun z : Nat => z ∈ [0, 3]) (fun v2 ev2 => ?_)
  refine gIf_i (P := fun z : Nat => z ∈ [0, 3]) (fun c1 => ?_) (fun c1 => ?_)
  · exact (show (3 : Nat) ∈ [0, 3] by decide)
  · exact (show (0 : Nat) ∈ [0, 3] by decide)
theorem cd_X5_save (tn : Int32) (tf : Nat → Int32) (r : gR) (rc : gR) (qz : Int32) (qn : Int32) (hq : Nat → Option gR) (lq : Nat → Option gR) (lfl : Nat → Int32) (p0 : Int32) : (f_X5_save tn tf r rc qz qn hq lq lfl p0).1 ∈ [0, 3] := by
  rw [f_X5_save_s]
  refine gLet_i (P := fun z : Nat × Int32 × (Nat → Option gR) × (Nat → Int32) => z.1 ∈ [0, 3]) (fun n1 en1 => ?_)
  refine gIf_i (P := fun z : Nat × Int32 × (Nat → Option gR) × (Nat → Int32) => z.1 ∈ [0, 3]) (fun c1 => ?_) (fun c1 => ?_)
  · refine gLet_i (P := fun z : Nat × Int32 × (Nat → Option gR) × (Nat → Int32) => z.1 ∈ [0, 3]) (fun u7 eu7 => ?_)
    exact (show (0 : Nat) ∈ [0, 3] by decide)
  · exact cd_sub (a := [0, 3]) (by decide) (by rw [← en1]; exact cd_X5_requireSlot _)
theorem cd_X5_restore (tn : Int32) (tf : Nat → Int32) (r : gR) (rc : gR) (qz : Int32) (qn : Int32) (hq : Nat → Option gR) (lq : Nat → Option gR) (lfl : Nat → Int32) (p0 : Int32) : (f_X5_restore tn tf r rc qz qn hq lq lfl p0).1 ∈ [0, 2, 3] := by
  rw [f_X5_restore_s]
  refine gLet_i (P := fun z : Nat × Int32 × gR × Int32 => z.1 ∈ [0, 2, 3]) (fun n1 en1 => ?_)
  refine gIf_i (P := fun z : Nat × Int32 × gR × Int32 => z.1 ∈ [0, 2, 3]) (fun c1 => ?_) (fun c1 => ?_)
  · refine gLet_i (P := fun z : Nat × Int32 × gR × Int32 => z.1 ∈ [0, 2, 3]) (fun q11 eq11 => ?_)
    refine gIf_i (P := fun z : Nat × Int32 × gR × Int32 => z.1 ∈ [0, 2, 3]) (fun c2 => ?_) (fun c2 => ?_)
    · exact (show (2 : Nat) ∈ [0, 2, 3] by decide)
    · refine gLet_i (P := fun z : Nat × Int32 × gR × Int32 => z.1 ∈ [0, 2, 3]) (fun u15 eu15 => ?_)
      exact (show (0 : Nat) ∈ [0, 2, 3] by decide)
  · exact cd_sub (a := [0, 3]) (by decide) (by rw [← en1]; exact cd_X5_requireSlot _)

def f_L_append (od : Nat → Int64) (tn : Int32) (tf : Nat → Int32) (p1 : Int32) : Int32 × Int32 × (Nat → Int32) × (Nat → Int64) :=
    gLet (f_X5_append tn tf p1) (fun (q1 : Nat × Int32 × Int32 × (Nat → Int32)) =>
    if q1.1 = 0 then
      (0, q1.2.2.1, q1.2.2.2, (vp_updL od ((0 : Int32).toNatClampNeg) q1.2.1.toInt64))
    else
      if q1.1 = 1 then
        (1, q1.2.2.1, q1.2.2.2, od)
      else
        (2, q1.2.2.1, q1.2.2.2, od))
theorem f_L_append_s (od : Nat → Int64) (tn : Int32) (tf : Nat → Int32) (p1 : Int32) : f_L_append od tn tf p1 =
    (gLet (f_X5_append tn tf p1) (fun (q1 : Nat × Int32 × Int32 × (Nat → Int32)) =>
    if q1.1 = 0 then
      (0, q1.2.2.1, q1.2.2.2, (vp_updL od ((0 : Int32).toNatClampNeg) q1.2.1.toInt64))
    else
      if q1.1 = 1 then
        (1, q1.2.2.1, q1.2.2.2, od)
      else
        (2, q1.2.2.1, q1.2.2.2, od))) := rfl
theorem hd_L_append : yL_append.cls ≠ "java/lang/invoke/MethodHandle" ∧ yL_append.cls ≠ "java/lang/invoke/VarHandle" ∧ (parseMethodDescriptor yL_append.desc).map (fun d => d.parameters.length) = some 3 := by decide +kernel
set_option maxHeartbeats 4000000 in
set_option maxRecDepth 100000 in
theorem c_L_append (l : Launch) (hst : l.stackTraces = false) (D : va_G) (y : Nat → ClassId) (a0 a1 a2 a3 a4 a5 a6 a7 : Nat) (zh : Nat) (od : Nat → Int64) (tn : Int32) (tf : Nat → Int32) (p1 : Int32) (ht : okT tn tf) : Met l yL_append wsL_append ({ frames := 7, cells := 2, slots := 12, locals := 103 }) (lP D y [.ref a1, .int p1, .ref a0] zh [(a0, .inl (y 4, 1, .inr (.inl od))), (a1, .inr (4, [.ref a2, .ref a3, .ref a4, .ref a5, .ref a6])), (a2, .inr (3, [.ref a7, .int tn])), (a7, .inl (y 1, 120, .inl tf))]) (va_Qi (fun (v : Int32) (u : Int32 × (Nat → Int32) × (Nat → Int64)) => f_L_append od tn tf p1 = (v, u)) (fun (u : Int32 × (Nat → Int32) × (Nat → Int64)) t => va_P D vwCl [(a0, .inl (y 4, 1, .inr (.inl u.2.2))), (a1, .inr (4, [.ref a2, .ref a3, .ref a4, .ref a5, .ref a6])), (a2, .inr (3, [.ref a7, .int u.1])), (a7, .inl (y 1, 120, .inl u.2.1))] t.heap ∧ va_D (va_A [(a0, .inl (y 4, 1, .inr (.inl od))), (a1, .inr (4, [.ref a2, .ref a3, .ref a4, .ref a5, .ref a6])), (a2, .inr (3, [.ref a7, .int tn])), (a7, .inl (y 1, 120, .inl tf))] zh) [(a0, .inl (y 4, 1, .inr (.inl u.2.2))), (a1, .inr (4, [.ref a2, .ref a3, .ref a4, .ref a5, .ref a6])), (a2, .inr (3, [.ref a7, .int u.1])), (a7, .inl (y 1, 120, .inl u.2.1))]) (va_A [(a0, .inl (y 4, 1, .inr (.inl od))), (a1, .inr (4, [.ref a2, .ref a3, .ref a4, .ref a5, .ref a6])), (a2, .inr (3, [.ref a7, .int tn])), (a7, .inl (y 1, 120, .inl tf))] zh)) 2 12 (va_A [(a0, .inl (y 4, 1, .inr (.inl od))), (a1, .inr (4, [.ref a2, .ref a3, .ref a4, .ref a5, .ref a6])), (a2, .inr (3, [.ref a7, .int tn])), (a7, .inl (y 1, 120, .inl tf))] zh) := by
  refine xL_of (vx_ofWH (cc := cL_append) (maxL := 4) (ret := (some .int)) (hh := [(0, 9, 12, 13), (0, 9, 15, 15)]) (by decide) rfl ?_)
  intro p e s m args below meth c s₁ B hml hv
  obtain ⟨⟨⟨rfl, hsz, hP, hE, hD⟩, hXE, hXZ⟩, hLN⟩ := hv
  have hx := B.exec
  have hb := B.bytes
  have hr := B.returns
  have hts := atoms_spec (ws := wsL_append) B.pre
  have hown : s.vm.findClass RL = some m.cls := findClass_of_methodNamed B.named
  have hlocks := B.notSynchronized
  have htab := vx_table (x := yL_append) B (hts _ List.mem_cons_self)
  have w_0 := hts (.classLink RL 13 "java/lang/IllegalArgumentException") (List.mem_cons_of_mem _ (List.mem_append_left _ (List.mem_append_left _ (List.mem_append_left _ (List.mem_append_left _ (List.mem_of_getElem? (i := 0) rfl))))))
  have w_1 := hts (.classLink RL 15 "java/lang/IllegalStateException") (List.mem_cons_of_mem _ (List.mem_append_left _ (List.mem_append_left _ (List.mem_append_left _ (List.mem_append_left _ (List.mem_of_getElem? (i := 1) rfl))))))
  subst hsz
  have hD := hD.self (sz := s.heap.size)
  generalize hAe : va_A [(a0, .inl (y 4, 1, .inr (.inl od))), (a1, .inr (4, [.ref a2, .ref a3, .ref a4, .ref a5, .ref a6])), (a2, .inr (3, [.ref a7, .int tn])), (a7, .inl (y 1, 120, .inl tf))] s.heap.size = A at hD hXZ ⊢
  have hA : ∀ q : Nat, s.heap.size ≤ q → A q := fun q h => by rw [← hAe]; exact Or.inr h
  have hS : va_S A s.heap s.heap [] := va_S.rf
  have hl := lv_entry ([.ref a1, .int p1, .ref a0]) (n := 4) (Nat.le_of_ble_eq_true rfl)
  rw [lg_entry_eq]
  generalize (lg_sl ([.ref a1, .int p1, .ref a0]) ++ List.replicate (4 - (lg_sl ([.ref a1, .int p1, .ref a0])).length) Slot.unset).toArray = ls at hl ⊢
  have hl : lv_has ls 4 [(0, .ref a1), (1, .int p1), (2, .ref a0)] := hl
  have hF := f_L_append_s od tn tf p1
  refine lv_aload_n hx hb dL_append_0 rfl (lv_at hl 2 rfl) ?_
  refine lv_iconst (v := 0) hx hb dL_append_1 (by decide) ?_
  refine lv_aload_n hx hb dL_append_2 rfl (lv_at hl 0 rfl) ?_
  refine lv_iload_n hx hb dL_append_3 rfl (lv_at hl 1 rfl) ?_
  obtain ⟨q1, eq1⟩ : ∃ z : Nat × Int32 × Int32 × (Nat → Int32), f_X5_append tn tf p1 = z := ⟨_, rfl⟩
  have hF := hF.trans (gLet_e eq1)
  refine xq_calli (vx_runV (As := [.int p1]) (rest := [.int 0, .ref a0]) ⟨hx, hb, hml, hown, hts⟩ (c_X5_append l hst D y a1 a2 a3 a4 a5 a6 a7 s.heap.size tn tf p1 ht) (cwV 1 hts gL_append_X5_append rfl rfl rfl hd_X5_append ⟨Nat.le_of_ble_eq_true rfl, Nat.le_of_ble_eq_true rfl⟩) (xV (q := (RX5, TX5, 5)) hE hXE hXZ hS hA (hP.sub [1, 2, 3] rfl) (hD.sub [1, 2, 3] (by decide) rfl) 0 rfl rfl) rfl rfl hl.1 rfl (lv_room (Nat.le_of_ble_eq_true rfl)) dL_append_4 ⟨Nat.le_of_ble_eq_true rfl, Nat.le_of_ble_eq_true rfl⟩) hP hD hS hA [1, 2, 3] rfl (by decide) (fun _ => rfl) (fun E5 ce6 a97 u3 H locs h4 hP hD hS h4a h4b h4c => ?_) (fun v2 u3 H locs h4 hP hD hS => ?_)
  · have h4q : q1.1 = xc E5 := by rw [← eq1, h4.1]
    obtain rfl : q1.2.2 = u3 := by rw [← eq1, h4.1]
    have hP : va_P D vwCl [(a0, .inl (y 4, 1, .inr (.inl od))), (a1, .inr (4, [.ref a2, .ref a3, .ref a4, .ref a5, .ref a6])), (a2, .inr (3, [.ref a7, .int q1.2.2.1])), (a7, .inl (y 1, 120, .inl q1.2.2.2))] H := hP
    have hD : va_D A [(a0, .inl (y 4, 1, .inr (.inl od))), (a1, .inr (4, [.ref a2, .ref a3, .ref a4, .ref a5, .ref a6])), (a2, .inr (3, [.ref a7, .int q1.2.2.1])), (a7, .inl (y 1, 120, .inl q1.2.2.2))] := hD
    rcases xc_E h4.2 with rfl | rfl | rfl
    · rw [xc_IA] at h4q
      have hF := hF.trans (if_neg (show ¬ q1.1 = 0 by rw [h4q]; decide))
      have hF := hF.trans (if_pos h4q)
      refine vx_catch hown (tableOf []) ⟨0, 9, 12, 13⟩ (tableOf [(0, 9, 15, 15)]) (htab.trans rfl) (fun z hz => nomatch hz) (by decide) (by decide) w_0 (hXE.1.1.1.use rfl) h4a h4b h4c ?_
      refine W.eq (g2 := F0 m 12 ls [.ref a97]) rfl ?_
      refine lv_astore_n (lv' := [(3, .ref a97), (0, .ref a1), (1, .int p1), (2, .ref a0)]) hx hb dL_append_12 rfl hl (by decide) rfl (fun ls hl => ?_)
      refine lv_iconst (v := 1) hx hb dL_append_13 (by decide) ?_
      refine W.widen (k := 2) (n := 12) (Nat.le_of_ble_eq_true rfl) (Nat.le_of_ble_eq_true rfl) ?_
      refine vx_ret ?_
      exact W.iret (v := 1) hx hb hr (fun t ht hW => ⟨⟨1, ⟨q1.2.2.1, q1.2.2.2, od⟩, rfl, hF, ⟨by rw [ht]; exact hP, hD⟩⟩, hS.F ht⟩) hS.2.2 dL_append_14
    · rw [xc_IS] at h4q
      have hF := hF.trans (if_neg (show ¬ q1.1 = 0 by rw [h4q]; decide))
      have hF := hF.trans (if_neg (show ¬ q1.1 = 1 by rw [h4q]; decide))
      refine vx_catch hown (tableOf [(0, 9, 12, 13)]) ⟨0, 9, 15, 15⟩ (tableOf []) (htab.trans rfl) (fun z hz => by simp only [tableOf, List.map_cons, List.map_nil, List.mem_cons, List.not_mem_nil, or_false] at hz; rcases hz with rfl; exact Or.inr ⟨by decide, _, w_0, hLN.2.1.1⟩) (by decide) (by decide) w_1 (hXE.1.1.2.1.use rfl) h4a h4b h4c ?_
      refine W.eq (g2 := F0 m 15 ls [.ref a97]) rfl ?_
      refine lv_astore_n (lv' := [(3, .ref a97), (0, .ref a1), (1, .int p1), (2, .ref a0)]) hx hb dL_append_15 rfl hl (by decide) rfl (fun ls hl => ?_)
      refine lv_iconst (v := 2) hx hb dL_append_16 (by decide) ?_
      refine W.widen (k := 2) (n := 12) (Nat.le_of_ble_eq_true rfl) (Nat.le_of_ble_eq_true rfl) ?_
      refine vx_ret ?_
      exact W.iret (v := 2) hx hb hr (fun t ht hW => ⟨⟨2, ⟨q1.2.2.1, q1.2.2.2, od⟩, rfl, hF, ⟨by rw [ht]; exact hP, hD⟩⟩, hS.F ht⟩) hS.2.2 dL_append_17
    · rw [xc_IO] at h4q
      have hc := cd_X5_append tn tf p1
      rw [eq1, h4q] at hc
      exact absurd hc (by decide)
  · have h4q : q1.1 = 0 := by rw [← eq1, h4]
    obtain ⟨rfl, rfl⟩ : q1.2.1 = v2 ∧ q1.2.2 = u3 := ⟨by rw [← eq1, h4], by rw [← eq1, h4]⟩
    have hP : va_P D vwCl [(a0, .inl (y 4, 1, .inr (.inl od))), (a1, .inr (4, [.ref a2, .ref a3, .ref a4, .ref a5, .ref a6])), (a2, .inr (3, [.ref a7, .int q1.2.2.1])), (a7, .inl (y 1, 120, .inl q1.2.2.2))] H := hP
    have hD : va_D A [(a0, .inl (y 4, 1, .inr (.inl od))), (a1, .inr (4, [.ref a2, .ref a3, .ref a4, .ref a5, .ref a6])), (a2, .inr (3, [.ref a7, .int q1.2.2.1])), (a7, .inl (y 1, 120, .inl q1.2.2.2))] := hD
    have hF := hF.trans (if_pos h4q)
    refine lv_i2l (v := q1.2.1.toInt64) hx hb dL_append_7 rfl ?_
    refine va_last hx hb hE.1 hP hD hS 0 4 rfl rfl (xin (by decide)) dL_append_8 (fun H locs hP hD hS => ?_)
    have hP : va_P D vwCl [(a0, .inl (y 4, 1, .inr (.inl (vp_updL od ((0 : Int32).toNatClampNeg) q1.2.1.toInt64)))), (a1, .inr (4, [.ref a2, .ref a3, .ref a4, .ref a5, .ref a6])), (a2, .inr (3, [.ref a7, .int q1.2.2.1])), (a7, .inl (y 1, 120, .inl q1.2.2.2))] H := hP
    have hD : va_D A [(a0, .inl (y 4, 1, .inr (.inl (vp_updL od ((0 : Int32).toNatClampNeg) q1.2.1.toInt64)))), (a1, .inr (4, [.ref a2, .ref a3, .ref a4, .ref a5, .ref a6])), (a2, .inr (3, [.ref a7, .int q1.2.2.1])), (a7, .inl (y 1, 120, .inl q1.2.2.2))] := hD
    refine lv_goto (tgt := 18) hx hb dL_append_9 (by decide) ?_
    refine lv_iconst (v := 0) hx hb dL_append_18 (by decide) ?_
    refine W.widen (k := 2) (n := 12) (Nat.le_of_ble_eq_true rfl) (Nat.le_of_ble_eq_true rfl) ?_
    refine vx_ret ?_
    exact W.iret (v := 0) hx hb hr (fun t ht hW => ⟨⟨0, ⟨q1.2.2.1, q1.2.2.2, (vp_updL od ((0 : Int32).toNatClampNeg) q1.2.1.toInt64)⟩, rfl, hF, ⟨by rw [ht]; exact hP, hD⟩⟩, hS.F ht⟩) hS.2.2 dL_append_19

def f_L_load (od : Nat → Int64) (tn : Int32) (tf : Nat → Int32) (r : gR) (qz : Int32) (qn : Int32) (lfl : Nat → Int32) : Int32 × gR × Int32 × (Nat → Int32) × (Nat → Int64) :=
    gLet (f_X5_load tn tf r qz qn lfl) (fun (q1 : Nat × Int32 × gR × Int32 × (Nat → Int32)) =>
    if q1.1 = 0 then
      (0, q1.2.2.1, q1.2.2.2.1, q1.2.2.2.2, (vp_updL od ((0 : Int32).toNatClampNeg) q1.2.1.toInt64))
    else
      (1, q1.2.2.1, q1.2.2.2.1, q1.2.2.2.2, od))
theorem f_L_load_s (od : Nat → Int64) (tn : Int32) (tf : Nat → Int32) (r : gR) (qz : Int32) (qn : Int32) (lfl : Nat → Int32) : f_L_load od tn tf r qz qn lfl =
    (gLet (f_X5_load tn tf r qz qn lfl) (fun (q1 : Nat × Int32 × gR × Int32 × (Nat → Int32)) =>
    if q1.1 = 0 then
      (0, q1.2.2.1, q1.2.2.2.1, q1.2.2.2.2, (vp_updL od ((0 : Int32).toNatClampNeg) q1.2.1.toInt64))
    else
      (1, q1.2.2.1, q1.2.2.2.1, q1.2.2.2.2, od))) := rfl
theorem hd_L_load : yL_load.cls ≠ "java/lang/invoke/MethodHandle" ∧ yL_load.cls ≠ "java/lang/invoke/VarHandle" ∧ (parseMethodDescriptor yL_load.desc).map (fun d => d.parameters.length) = some 2 := by decide +kernel
set_option maxHeartbeats 4000000 in
set_option maxRecDepth 100000 in
theorem c_L_load (l : Launch) (hst : l.stackTraces = false) (D : va_G) (y : Nat → ClassId) (a0 a1 a2 a3 a4 a5 a6 a7 a8 a9 a10 a11 a12 : Nat) (zh : Nat) (od : Nat → Int64) (tn : Int32) (tf : Nat → Int32) (r : gR) (qz : Int32) (qn : Int32) (lfl : Nat → Int32) (ht : okT tn tf) (ho : okC r) : Met l yL_load wsL_load ({ frames := 7, cells := 2, slots := 12, locals := 157 }) (lP D y [.ref a1, .ref a0] zh [(a0, .inl (y 4, 1, .inr (.inl od))), (a1, .inr (4, [.ref a2, .ref a3, .ref a4, .ref a5, .ref a6])), (a2, .inr (3, [.ref a7, .int tn])), (a7, .inl (y 1, 120, .inl tf)), (a3, soF a8 a9 r), (a8, soV y r), (a9, soW y r), (a5, .inr (0, [.ref a10, .int qz, .int qn])), (a6, .inr (1, [.ref a11, .ref a12])), (a12, .inl (y 2, 2, .inl lfl))]) (va_Qi (fun (v : Int32) (u : gR × Int32 × (Nat → Int32) × (Nat → Int64)) => f_L_load od tn tf r qz qn lfl = (v, u)) (fun (u : gR × Int32 × (Nat → Int32) × (Nat → Int64)) t => va_P D vwCl [(a0, .inl (y 4, 1, .inr (.inl u.2.2.2))), (a1, .inr (4, [.ref a2, .ref a3, .ref a4, .ref a5, .ref a6])), (a2, .inr (3, [.ref a7, .int tn])), (a7, .inl (y 1, 120, .inl tf)), (a3, soF a8 a9 u.1), (a8, soV y u.1), (a9, soW y u.1), (a5, .inr (0, [.ref a10, .int u.2.1, .int qn])), (a6, .inr (1, [.ref a11, .ref a12])), (a12, .inl (y 2, 2, .inl u.2.2.1))] t.heap ∧ va_D (va_A [(a0, .inl (y 4, 1, .inr (.inl od))), (a1, .inr (4, [.ref a2, .ref a3, .ref a4, .ref a5, .ref a6])), (a2, .inr (3, [.ref a7, .int tn])), (a7, .inl (y 1, 120, .inl tf)), (a3, soF a8 a9 r), (a8, soV y r), (a9, soW y r), (a5, .inr (0, [.ref a10, .int qz, .int qn])), (a6, .inr (1, [.ref a11, .ref a12])), (a12, .inl (y 2, 2, .inl lfl))] zh) [(a0, .inl (y 4, 1, .inr (.inl u.2.2.2))), (a1, .inr (4, [.ref a2, .ref a3, .ref a4, .ref a5, .ref a6])), (a2, .inr (3, [.ref a7, .int tn])), (a7, .inl (y 1, 120, .inl tf)), (a3, soF a8 a9 u.1), (a8, soV y u.1), (a9, soW y u.1), (a5, .inr (0, [.ref a10, .int u.2.1, .int qn])), (a6, .inr (1, [.ref a11, .ref a12])), (a12, .inl (y 2, 2, .inl u.2.2.1))]) (va_A [(a0, .inl (y 4, 1, .inr (.inl od))), (a1, .inr (4, [.ref a2, .ref a3, .ref a4, .ref a5, .ref a6])), (a2, .inr (3, [.ref a7, .int tn])), (a7, .inl (y 1, 120, .inl tf)), (a3, soF a8 a9 r), (a8, soV y r), (a9, soW y r), (a5, .inr (0, [.ref a10, .int qz, .int qn])), (a6, .inr (1, [.ref a11, .ref a12])), (a12, .inl (y 2, 2, .inl lfl))] zh)) 2 12 (va_A [(a0, .inl (y 4, 1, .inr (.inl od))), (a1, .inr (4, [.ref a2, .ref a3, .ref a4, .ref a5, .ref a6])), (a2, .inr (3, [.ref a7, .int tn])), (a7, .inl (y 1, 120, .inl tf)), (a3, soF a8 a9 r), (a8, soV y r), (a9, soW y r), (a5, .inr (0, [.ref a10, .int qz, .int qn])), (a6, .inr (1, [.ref a11, .ref a12])), (a12, .inl (y 2, 2, .inl lfl))] zh) := by
  refine xL_of (vx_ofWH (cc := cL_load) (maxL := 3) (ret := (some .int)) (hh := [(0, 8, 11, 15)]) (by decide) rfl ?_)
  intro p e s m args below meth c s₁ B hml hv
  obtain ⟨⟨⟨rfl, hsz, hP, hE, hD⟩, hXE, hXZ⟩, hLN⟩ := hv
  have hx := B.exec
  have hb := B.bytes
  have hr := B.returns
  have hts := atoms_spec (ws := wsL_load) B.pre
  have hown : s.vm.findClass RL = some m.cls := findClass_of_methodNamed B.named
  have hlocks := B.notSynchronized
  have htab := vx_table (x := yL_load) B (hts _ List.mem_cons_self)
  have w_0 := hts (.classLink RL 15 "java/lang/IllegalStateException") (List.mem_cons_of_mem _ (List.mem_append_left _ (List.mem_append_left _ (List.mem_append_left _ (List.mem_append_left _ (List.mem_append_left _ (List.mem_append_left _ (List.mem_append_left _ (List.mem_of_getElem? (i := 0) rfl)))))))))
  subst hsz
  have hD := hD.self (sz := s.heap.size)
  generalize hAe : va_A [(a0, .inl (y 4, 1, .inr (.inl od))), (a1, .inr (4, [.ref a2, .ref a3, .ref a4, .ref a5, .ref a6])), (a2, .inr (3, [.ref a7, .int tn])), (a7, .inl (y 1, 120, .inl tf)), (a3, soF a8 a9 r), (a8, soV y r), (a9, soW y r), (a5, .inr (0, [.ref a10, .int qz, .int qn])), (a6, .inr (1, [.ref a11, .ref a12])), (a12, .inl (y 2, 2, .inl lfl))] s.heap.size = A at hD hXZ ⊢
  have hA : ∀ q : Nat, s.heap.size ≤ q → A q := fun q h => by rw [← hAe]; exact Or.inr h
  have hS : va_S A s.heap s.heap [] := va_S.rf
  have hl := lv_entry ([.ref a1, .ref a0]) (n := 3) (Nat.le_of_ble_eq_true rfl)
  rw [lg_entry_eq]
  generalize (lg_sl ([.ref a1, .ref a0]) ++ List.replicate (3 - (lg_sl ([.ref a1, .ref a0])).length) Slot.unset).toArray = ls at hl ⊢
  have hl : lv_has ls 3 [(0, .ref a1), (1, .ref a0)] := hl
  have hF := f_L_load_s od tn tf r qz qn lfl
  refine lv_aload_n hx hb dL_load_0 rfl (lv_at hl 1 rfl) ?_
  refine lv_iconst (v := 0) hx hb dL_load_1 (by decide) ?_
  refine lv_aload_n hx hb dL_load_2 rfl (lv_at hl 0 rfl) ?_
  obtain ⟨q1, eq1⟩ : ∃ z : Nat × Int32 × gR × Int32 × (Nat → Int32), f_X5_load tn tf r qz qn lfl = z := ⟨_, rfl⟩
  have hF := hF.trans (gLet_e eq1)
  refine xq_calli (vx_runV (As := []) (rest := [.int 0, .ref a0]) ⟨hx, hb, hml, hown, hts⟩ (c_X5_load l hst D y a1 a2 a3 a4 a5 a6 a7 a8 a9 a10 a11 a12 s.heap.size tn tf r qz qn lfl ht ho) (cwV 0 hts gL_load_X5_load rfl rfl rfl hd_X5_load ⟨Nat.le_of_ble_eq_true rfl, Nat.le_of_ble_eq_true rfl⟩) (xV (q := (RX5, TX5, 5)) hE hXE hXZ hS hA (hP.sub [1, 2, 3, 4, 5, 6, 7, 8, 9] rfl) (hD.sub [1, 2, 3, 4, 5, 6, 7, 8, 9] (by decide) rfl) 0 rfl rfl) rfl rfl hl.1 rfl (lv_room (Nat.le_of_ble_eq_true rfl)) dL_load_3 ⟨Nat.le_of_ble_eq_true rfl, Nat.le_of_ble_eq_true rfl⟩) hP hD hS hA [1, 2, 3, 4, 5, 6, 7, 8, 9] rfl (by decide) (fun _ => rfl) (fun E5 ce6 a97 u3 H locs h4 hP hD hS h4a h4b h4c => ?_) (fun v2 u3 H locs h4 hP hD hS => ?_)
  · have h4q : q1.1 = xc E5 := by rw [← eq1, h4.1]
    obtain rfl : q1.2.2 = u3 := by rw [← eq1, h4.1]
    have hP : va_P D vwCl [(a0, .inl (y 4, 1, .inr (.inl od))), (a1, .inr (4, [.ref a2, .ref a3, .ref a4, .ref a5, .ref a6])), (a2, .inr (3, [.ref a7, .int tn])), (a7, .inl (y 1, 120, .inl tf)), (a3, soF a8 a9 q1.2.2.1), (a8, soV y q1.2.2.1), (a9, soW y q1.2.2.1), (a5, .inr (0, [.ref a10, .int q1.2.2.2.1, .int qn])), (a6, .inr (1, [.ref a11, .ref a12])), (a12, .inl (y 2, 2, .inl q1.2.2.2.2))] H := hP
    have hD : va_D A [(a0, .inl (y 4, 1, .inr (.inl od))), (a1, .inr (4, [.ref a2, .ref a3, .ref a4, .ref a5, .ref a6])), (a2, .inr (3, [.ref a7, .int tn])), (a7, .inl (y 1, 120, .inl tf)), (a3, soF a8 a9 q1.2.2.1), (a8, soV y q1.2.2.1), (a9, soW y q1.2.2.1), (a5, .inr (0, [.ref a10, .int q1.2.2.2.1, .int qn])), (a6, .inr (1, [.ref a11, .ref a12])), (a12, .inl (y 2, 2, .inl q1.2.2.2.2))] := hD
    rcases xc_E h4.2 with rfl | rfl | rfl
    · rw [xc_IA] at h4q
      have hc := cd_X5_load tn tf r qz qn lfl
      rw [eq1, h4q] at hc
      exact absurd hc (by decide)
    · rw [xc_IS] at h4q
      have hF := hF.trans (if_neg (show ¬ q1.1 = 0 by rw [h4q]; decide))
      refine vx_catch hown (tableOf []) ⟨0, 8, 11, 15⟩ (tableOf []) (htab.trans rfl) (fun z hz => nomatch hz) (by decide) (by decide) w_0 (hXE.1.1.2.1.use rfl) h4a h4b h4c ?_
      refine W.eq (g2 := F0 m 11 ls [.ref a97]) rfl ?_
      refine lv_astore_n (lv' := [(2, .ref a97), (0, .ref a1), (1, .ref a0)]) hx hb dL_load_11 rfl hl (by decide) rfl (fun ls hl => ?_)
      refine lv_iconst (v := 1) hx hb dL_load_12 (by decide) ?_
      refine W.widen (k := 2) (n := 12) (Nat.le_of_ble_eq_true rfl) (Nat.le_of_ble_eq_true rfl) ?_
      refine vx_ret ?_
      exact W.iret (v := 1) hx hb hr (fun t ht hW => ⟨⟨1, ⟨q1.2.2.1, q1.2.2.2.1, q1.2.2.2.2, od⟩, rfl, hF, ⟨by rw [ht]; exact hP, hD⟩⟩, hS.F ht⟩) hS.2.2 dL_load_13
    · rw [xc_IO] at h4q
      have hc := cd_X5_load tn tf r qz qn lfl
      rw [eq1, h4q] at hc
      exact absurd hc (by decide)
  · have h4q : q1.1 = 0 := by rw [← eq1, h4]
    obtain ⟨rfl, rfl⟩ : q1.2.1 = v2 ∧ q1.2.2 = u3 := ⟨by rw [← eq1, h4], by rw [← eq1, h4]⟩
    have hP : va_P D vwCl [(a0, .inl (y 4, 1, .inr (.inl od))), (a1, .inr (4, [.ref a2, .ref a3, .ref a4, .ref a5, .ref a6])), (a2, .inr (3, [.ref a7, .int tn])), (a7, .inl (y 1, 120, .inl tf)), (a3, soF a8 a9 q1.2.2.1), (a8, soV y q1.2.2.1), (a9, soW y q1.2.2.1), (a5, .inr (0, [.ref a10, .int q1.2.2.2.1, .int qn])), (a6, .inr (1, [.ref a11, .ref a12])), (a12, .inl (y 2, 2, .inl q1.2.2.2.2))] H := hP
    have hD : va_D A [(a0, .inl (y 4, 1, .inr (.inl od))), (a1, .inr (4, [.ref a2, .ref a3, .ref a4, .ref a5, .ref a6])), (a2, .inr (3, [.ref a7, .int tn])), (a7, .inl (y 1, 120, .inl tf)), (a3, soF a8 a9 q1.2.2.1), (a8, soV y q1.2.2.1), (a9, soW y q1.2.2.1), (a5, .inr (0, [.ref a10, .int q1.2.2.2.1, .int qn])), (a6, .inr (1, [.ref a11, .ref a12])), (a12, .inl (y 2, 2, .inl q1.2.2.2.2))] := hD
    have hF := hF.trans (if_pos h4q)
    refine lv_i2l (v := q1.2.1.toInt64) hx hb dL_load_6 rfl ?_
    refine va_last hx hb hE.1 hP hD hS 0 4 rfl rfl (xin (by decide)) dL_load_7 (fun H locs hP hD hS => ?_)
    have hP : va_P D vwCl [(a0, .inl (y 4, 1, .inr (.inl (vp_updL od ((0 : Int32).toNatClampNeg) q1.2.1.toInt64)))), (a1, .inr (4, [.ref a2, .ref a3, .ref a4, .ref a5, .ref a6])), (a2, .inr (3, [.ref a7, .int tn])), (a7, .inl (y 1, 120, .inl tf)), (a3, soF a8 a9 q1.2.2.1), (a8, soV y q1.2.2.1), (a9, soW y q1.2.2.1), (a5, .inr (0, [.ref a10, .int q1.2.2.2.1, .int qn])), (a6, .inr (1, [.ref a11, .ref a12])), (a12, .inl (y 2, 2, .inl q1.2.2.2.2))] H := hP
    have hD : va_D A [(a0, .inl (y 4, 1, .inr (.inl (vp_updL od ((0 : Int32).toNatClampNeg) q1.2.1.toInt64)))), (a1, .inr (4, [.ref a2, .ref a3, .ref a4, .ref a5, .ref a6])), (a2, .inr (3, [.ref a7, .int tn])), (a7, .inl (y 1, 120, .inl tf)), (a3, soF a8 a9 q1.2.2.1), (a8, soV y q1.2.2.1), (a9, soW y q1.2.2.1), (a5, .inr (0, [.ref a10, .int q1.2.2.2.1, .int qn])), (a6, .inr (1, [.ref a11, .ref a12])), (a12, .inl (y 2, 2, .inl q1.2.2.2.2))] := hD
    refine lv_goto (tgt := 14) hx hb dL_load_8 (by decide) ?_
    refine lv_iconst (v := 0) hx hb dL_load_14 (by decide) ?_
    refine W.widen (k := 2) (n := 12) (Nat.le_of_ble_eq_true rfl) (Nat.le_of_ble_eq_true rfl) ?_
    refine vx_ret ?_
    exact W.iret (v := 0) hx hb hr (fun t ht hW => ⟨⟨0, ⟨q1.2.2.1, q1.2.2.2.1, q1.2.2.2.2, (vp_updL od ((0 : Int32).toNatClampNeg) q1.2.1.toInt64)⟩, rfl, hF, ⟨by rw [ht]; exact hP, hD⟩⟩, hS.F ht⟩) hS.2.2 dL_load_15

def f_L_about (od : Nat → Int64) (r : gR) (p1 : Int32) : Int32 × (Nat → Int64) :=
    gLet (f_X5_about r p1) (fun (q1 : Nat × Int32) =>
    if q1.1 = 0 then
      (0, (vp_updL od ((0 : Int32).toNatClampNeg) q1.2.toInt64))
    else
      (1, od))
theorem f_L_about_s (od : Nat → Int64) (r : gR) (p1 : Int32) : f_L_about od r p1 =
    (gLet (f_X5_about r p1) (fun (q1 : Nat × Int32) =>
    if q1.1 = 0 then
      (0, (vp_updL od ((0 : Int32).toNatClampNeg) q1.2.toInt64))
    else
      (1, od))) := rfl
theorem hd_L_about : yL_about.cls ≠ "java/lang/invoke/MethodHandle" ∧ yL_about.cls ≠ "java/lang/invoke/VarHandle" ∧ (parseMethodDescriptor yL_about.desc).map (fun d => d.parameters.length) = some 3 := by decide +kernel
set_option maxHeartbeats 4000000 in
set_option maxRecDepth 100000 in
theorem c_L_about (l : Launch) (hst : l.stackTraces = false) (D : va_G) (y : Nat → ClassId) (a0 a1 a2 a3 a4 a5 a6 a7 a8 : Nat) (zh : Nat) (od : Nat → Int64) (r : gR) (p1 : Int32) (ho : okC r) : Met l yL_about wsL_about ({ frames := 7, cells := 2, slots := 12, locals := 103 }) (lP D y [.ref a1, .int p1, .ref a0] zh [(a0, .inl (y 4, 1, .inr (.inl od))), (a1, .inr (4, [.ref a2, .ref a3, .ref a4, .ref a5, .ref a6])), (a3, soF a7 a8 r), (a7, soV y r), (a8, soW y r)]) (va_Qi (fun (v : Int32) (u : (Nat → Int64)) => f_L_about od r p1 = (v, u)) (fun (u : (Nat → Int64)) t => va_P D vwCl [(a0, .inl (y 4, 1, .inr (.inl u))), (a1, .inr (4, [.ref a2, .ref a3, .ref a4, .ref a5, .ref a6])), (a3, soF a7 a8 r), (a7, soV y r), (a8, soW y r)] t.heap ∧ va_D (va_A [(a0, .inl (y 4, 1, .inr (.inl od))), (a1, .inr (4, [.ref a2, .ref a3, .ref a4, .ref a5, .ref a6])), (a3, soF a7 a8 r), (a7, soV y r), (a8, soW y r)] zh) [(a0, .inl (y 4, 1, .inr (.inl u))), (a1, .inr (4, [.ref a2, .ref a3, .ref a4, .ref a5, .ref a6])), (a3, soF a7 a8 r), (a7, soV y r), (a8, soW y r)]) (va_A [(a0, .inl (y 4, 1, .inr (.inl od))), (a1, .inr (4, [.ref a2, .ref a3, .ref a4, .ref a5, .ref a6])), (a3, soF a7 a8 r), (a7, soV y r), (a8, soW y r)] zh)) 2 12 (va_A [(a0, .inl (y 4, 1, .inr (.inl od))), (a1, .inr (4, [.ref a2, .ref a3, .ref a4, .ref a5, .ref a6])), (a3, soF a7 a8 r), (a7, soV y r), (a8, soW y r)] zh) := by
  refine xL_of (vx_ofWH (cc := cL_about) (maxL := 4) (ret := (some .int)) (hh := [(0, 9, 12, 13)]) (by decide) rfl ?_)
  intro p e s m args below meth c s₁ B hml hv
  obtain ⟨⟨⟨rfl, hsz, hP, hE, hD⟩, hXE, hXZ⟩, hLN⟩ := hv
  have hx := B.exec
  have hb := B.bytes
  have hr := B.returns
  have hts := atoms_spec (ws := wsL_about) B.pre
  have hown : s.vm.findClass RL = some m.cls := findClass_of_methodNamed B.named
  have hlocks := B.notSynchronized
  have htab := vx_table (x := yL_about) B (hts _ List.mem_cons_self)
  have w_0 := hts (.classLink RL 13 "java/lang/IllegalArgumentException") (List.mem_cons_of_mem _ (List.mem_append_left _ (List.mem_append_left _ (List.mem_append_left _ (List.mem_append_left _ (List.mem_of_getElem? (i := 0) rfl))))))
  subst hsz
  have hD := hD.self (sz := s.heap.size)
  generalize hAe : va_A [(a0, .inl (y 4, 1, .inr (.inl od))), (a1, .inr (4, [.ref a2, .ref a3, .ref a4, .ref a5, .ref a6])), (a3, soF a7 a8 r), (a7, soV y r), (a8, soW y r)] s.heap.size = A at hD hXZ ⊢
  have hA : ∀ q : Nat, s.heap.size ≤ q → A q := fun q h => by rw [← hAe]; exact Or.inr h
  have hS : va_S A s.heap s.heap [] := va_S.rf
  have hl := lv_entry ([.ref a1, .int p1, .ref a0]) (n := 4) (Nat.le_of_ble_eq_true rfl)
  rw [lg_entry_eq]
  generalize (lg_sl ([.ref a1, .int p1, .ref a0]) ++ List.replicate (4 - (lg_sl ([.ref a1, .int p1, .ref a0])).length) Slot.unset).toArray = ls at hl ⊢
  have hl : lv_has ls 4 [(0, .ref a1), (1, .int p1), (2, .ref a0)] := hl
  have hF := f_L_about_s od r p1
  refine lv_aload_n hx hb dL_about_0 rfl (lv_at hl 2 rfl) ?_
  refine lv_iconst (v := 0) hx hb dL_about_1 (by decide) ?_
  refine lv_aload_n hx hb dL_about_2 rfl (lv_at hl 0 rfl) ?_
  refine lv_iload_n hx hb dL_about_3 rfl (lv_at hl 1 rfl) ?_
  obtain ⟨q1, eq1⟩ : ∃ z : Nat × Int32, f_X5_about r p1 = z := ⟨_, rfl⟩
  have hF := hF.trans (gLet_e eq1)
  refine xq_calli (vx_runV (As := [.int p1]) (rest := [.int 0, .ref a0]) ⟨hx, hb, hml, hown, hts⟩ (c_X5_about l hst D y a1 a2 a3 a4 a5 a6 a7 a8 s.heap.size r p1 ho) (cwV 1 hts gL_about_X5_about rfl rfl rfl hd_X5_about ⟨Nat.le_of_ble_eq_true rfl, Nat.le_of_ble_eq_true rfl⟩) (xV (q := (RX5, TX5, 5)) hE hXE hXZ hS hA (hP.sub [1, 2, 3, 4] rfl) (hD.sub [1, 2, 3, 4] (by decide) rfl) 0 rfl rfl) rfl rfl hl.1 rfl (lv_room (Nat.le_of_ble_eq_true rfl)) dL_about_4 ⟨Nat.le_of_ble_eq_true rfl, Nat.le_of_ble_eq_true rfl⟩) hP hD hS hA [1, 2, 3, 4] rfl (by decide) (fun _ => rfl) (fun E5 ce6 a97 u3 H locs h4 hP hD hS h4a h4b h4c => ?_) (fun v2 u3 H locs h4 hP hD hS => ?_)
  · have h4q : q1.1 = xc E5 := by rw [← eq1, h4.1]
    have hP : va_P D vwCl [(a0, .inl (y 4, 1, .inr (.inl od))), (a1, .inr (4, [.ref a2, .ref a3, .ref a4, .ref a5, .ref a6])), (a3, soF a7 a8 r), (a7, soV y r), (a8, soW y r)] H := hP
    have hD : va_D A [(a0, .inl (y 4, 1, .inr (.inl od))), (a1, .inr (4, [.ref a2, .ref a3, .ref a4, .ref a5, .ref a6])), (a3, soF a7 a8 r), (a7, soV y r), (a8, soW y r)] := hD
    rcases xc_E h4.2 with rfl | rfl | rfl
    · rw [xc_IA] at h4q
      have hF := hF.trans (if_neg (show ¬ q1.1 = 0 by rw [h4q]; decide))
      refine vx_catch hown (tableOf []) ⟨0, 9, 12, 13⟩ (tableOf []) (htab.trans rfl) (fun z hz => nomatch hz) (by decide) (by decide) w_0 (hXE.1.1.1.use rfl) h4a h4b h4c ?_
      refine W.eq (g2 := F0 m 12 ls [.ref a97]) rfl ?_
      refine lv_astore_n (lv' := [(3, .ref a97), (0, .ref a1), (1, .int p1), (2, .ref a0)]) hx hb dL_about_12 rfl hl (by decide) rfl (fun ls hl => ?_)
      refine lv_iconst (v := 1) hx hb dL_about_13 (by decide) ?_
      refine W.widen (k := 2) (n := 12) (Nat.le_of_ble_eq_true rfl) (Nat.le_of_ble_eq_true rfl) ?_
      refine vx_ret ?_
      exact W.iret (v := 1) hx hb hr (fun t ht hW => ⟨⟨1, od, rfl, hF, ⟨by rw [ht]; exact hP, hD⟩⟩, hS.F ht⟩) hS.2.2 dL_about_14
    · rw [xc_IS] at h4q
      have hc := cd_X5_about r p1
      rw [eq1, h4q] at hc
      exact absurd hc (by decide)
    · rw [xc_IO] at h4q
      have hc := cd_X5_about r p1
      rw [eq1, h4q] at hc
      exact absurd hc (by decide)
  · have h4q : q1.1 = 0 := by rw [← eq1, h4]
    obtain rfl : q1.2 = v2 := by rw [← eq1, h4]
    have hP : va_P D vwCl [(a0, .inl (y 4, 1, .inr (.inl od))), (a1, .inr (4, [.ref a2, .ref a3, .ref a4, .ref a5, .ref a6])), (a3, soF a7 a8 r), (a7, soV y r), (a8, soW y r)] H := hP
    have hD : va_D A [(a0, .inl (y 4, 1, .inr (.inl od))), (a1, .inr (4, [.ref a2, .ref a3, .ref a4, .ref a5, .ref a6])), (a3, soF a7 a8 r), (a7, soV y r), (a8, soW y r)] := hD
    have hF := hF.trans (if_pos h4q)
    refine lv_i2l (v := q1.2.toInt64) hx hb dL_about_7 rfl ?_
    refine va_last hx hb hE.1 hP hD hS 0 4 rfl rfl (xin (by decide)) dL_about_8 (fun H locs hP hD hS => ?_)
    have hP : va_P D vwCl [(a0, .inl (y 4, 1, .inr (.inl (vp_updL od ((0 : Int32).toNatClampNeg) q1.2.toInt64)))), (a1, .inr (4, [.ref a2, .ref a3, .ref a4, .ref a5, .ref a6])), (a3, soF a7 a8 r), (a7, soV y r), (a8, soW y r)] H := hP
    have hD : va_D A [(a0, .inl (y 4, 1, .inr (.inl (vp_updL od ((0 : Int32).toNatClampNeg) q1.2.toInt64)))), (a1, .inr (4, [.ref a2, .ref a3, .ref a4, .ref a5, .ref a6])), (a3, soF a7 a8 r), (a7, soV y r), (a8, soW y r)] := hD
    refine lv_goto (tgt := 15) hx hb dL_about_9 (by decide) ?_
    refine lv_iconst (v := 0) hx hb dL_about_15 (by decide) ?_
    refine W.widen (k := 2) (n := 12) (Nat.le_of_ble_eq_true rfl) (Nat.le_of_ble_eq_true rfl) ?_
    refine vx_ret ?_
    exact W.iret (v := 0) hx hb hr (fun t ht hW => ⟨⟨0, (vp_updL od ((0 : Int32).toNatClampNeg) q1.2.toInt64), rfl, hF, ⟨by rw [ht]; exact hP, hD⟩⟩, hS.F ht⟩) hS.2.2 dL_about_16

def f_L_read (od : Nat → Int64) (r : gR) (p1 : Int32) : Int32 × (Nat → Int64) :=
    gLet (f_X5_read r p1) (fun (q1 : Nat × Int32) =>
    if q1.1 = 0 then
      (0, (vp_updL od ((0 : Int32).toNatClampNeg) q1.2.toInt64))
    else
      (1, od))
theorem f_L_read_s (od : Nat → Int64) (r : gR) (p1 : Int32) : f_L_read od r p1 =
    (gLet (f_X5_read r p1) (fun (q1 : Nat × Int32) =>
    if q1.1 = 0 then
      (0, (vp_updL od ((0 : Int32).toNatClampNeg) q1.2.toInt64))
    else
      (1, od))) := rfl
theorem hd_L_read : yL_read.cls ≠ "java/lang/invoke/MethodHandle" ∧ yL_read.cls ≠ "java/lang/invoke/VarHandle" ∧ (parseMethodDescriptor yL_read.desc).map (fun d => d.parameters.length) = some 3 := by decide +kernel
set_option maxHeartbeats 4000000 in
set_option maxRecDepth 100000 in
theorem c_L_read (l : Launch) (hst : l.stackTraces = false) (D : va_G) (y : Nat → ClassId) (a0 a1 a2 a3 a4 a5 a6 a7 a8 : Nat) (zh : Nat) (od : Nat → Int64) (r : gR) (p1 : Int32) (ho : okC r) : Met l yL_read wsL_read ({ frames := 8, cells := 2, slots := 12, locals := 124 }) (lP D y [.ref a1, .int p1, .ref a0] zh [(a0, .inl (y 4, 1, .inr (.inl od))), (a1, .inr (4, [.ref a2, .ref a3, .ref a4, .ref a5, .ref a6])), (a3, soF a7 a8 r), (a7, soV y r), (a8, soW y r)]) (va_Qi (fun (v : Int32) (u : (Nat → Int64)) => f_L_read od r p1 = (v, u)) (fun (u : (Nat → Int64)) t => va_P D vwCl [(a0, .inl (y 4, 1, .inr (.inl u))), (a1, .inr (4, [.ref a2, .ref a3, .ref a4, .ref a5, .ref a6])), (a3, soF a7 a8 r), (a7, soV y r), (a8, soW y r)] t.heap ∧ va_D (va_A [(a0, .inl (y 4, 1, .inr (.inl od))), (a1, .inr (4, [.ref a2, .ref a3, .ref a4, .ref a5, .ref a6])), (a3, soF a7 a8 r), (a7, soV y r), (a8, soW y r)] zh) [(a0, .inl (y 4, 1, .inr (.inl u))), (a1, .inr (4, [.ref a2, .ref a3, .ref a4, .ref a5, .ref a6])), (a3, soF a7 a8 r), (a7, soV y r), (a8, soW y r)]) (va_A [(a0, .inl (y 4, 1, .inr (.inl od))), (a1, .inr (4, [.ref a2, .ref a3, .ref a4, .ref a5, .ref a6])), (a3, soF a7 a8 r), (a7, soV y r), (a8, soW y r)] zh)) 2 12 (va_A [(a0, .inl (y 4, 1, .inr (.inl od))), (a1, .inr (4, [.ref a2, .ref a3, .ref a4, .ref a5, .ref a6])), (a3, soF a7 a8 r), (a7, soV y r), (a8, soW y r)] zh) := by
  refine xL_of (vx_ofWH (cc := cL_read) (maxL := 4) (ret := (some .int)) (hh := [(0, 9, 12, 27)]) (by decide) rfl ?_)
  intro p e s m args below meth c s₁ B hml hv
  obtain ⟨⟨⟨rfl, hsz, hP, hE, hD⟩, hXE, hXZ⟩, hLN⟩ := hv
  have hx := B.exec
  have hb := B.bytes
  have hr := B.returns
  have hts := atoms_spec (ws := wsL_read) B.pre
  have hown : s.vm.findClass RL = some m.cls := findClass_of_methodNamed B.named
  have hlocks := B.notSynchronized
  have htab := vx_table (x := yL_read) B (hts _ List.mem_cons_self)
  have w_0 := hts (.classLink RL 27 "java/lang/IndexOutOfBoundsException") (List.mem_cons_of_mem _ (List.mem_append_left _ (List.mem_append_left _ (List.mem_append_left _ (List.mem_append_left _ (List.mem_of_getElem? (i := 0) rfl))))))
  subst hsz
  have hD := hD.self (sz := s.heap.size)
  generalize hAe : va_A [(a0, .inl (y 4, 1, .inr (.inl od))), (a1, .inr (4, [.ref a2, .ref a3, .ref a4, .ref a5, .ref a6])), (a3, soF a7 a8 r), (a7, soV y r), (a8, soW y r)] s.heap.size = A at hD hXZ ⊢
  have hA : ∀ q : Nat, s.heap.size ≤ q → A q := fun q h => by rw [← hAe]; exact Or.inr h
  have hS : va_S A s.heap s.heap [] := va_S.rf
  have hl := lv_entry ([.ref a1, .int p1, .ref a0]) (n := 4) (Nat.le_of_ble_eq_true rfl)
  rw [lg_entry_eq]
  generalize (lg_sl ([.ref a1, .int p1, .ref a0]) ++ List.replicate (4 - (lg_sl ([.ref a1, .int p1, .ref a0])).length) Slot.unset).toArray = ls at hl ⊢
  have hl : lv_has ls 4 [(0, .ref a1), (1, .int p1), (2, .ref a0)] := hl
  have hF := f_L_read_s od r p1
  refine lv_aload_n hx hb dL_read_0 rfl (lv_at hl 2 rfl) ?_
  refine lv_iconst (v := 0) hx hb dL_read_1 (by decide) ?_
  refine lv_aload_n hx hb dL_read_2 rfl (lv_at hl 0 rfl) ?_
  refine lv_iload_n hx hb dL_read_3 rfl (lv_at hl 1 rfl) ?_
  obtain ⟨q1, eq1⟩ : ∃ z : Nat × Int32, f_X5_read r p1 = z := ⟨_, rfl⟩
  have hF := hF.trans (gLet_e eq1)
  refine xq_calli (vx_runV (As := [.int p1]) (rest := [.int 0, .ref a0]) ⟨hx, hb, hml, hown, hts⟩ (c_X5_read l hst D y a1 a2 a3 a4 a5 a6 a7 a8 s.heap.size r p1 ho) (cwV 1 hts gL_read_X5_read rfl rfl rfl hd_X5_read ⟨Nat.le_of_ble_eq_true rfl, Nat.le_of_ble_eq_true rfl⟩) (xV (q := (RX5, TX5, 5)) hE hXE hXZ hS hA (hP.sub [1, 2, 3, 4] rfl) (hD.sub [1, 2, 3, 4] (by decide) rfl) 0 rfl rfl) rfl rfl hl.1 rfl (lv_room (Nat.le_of_ble_eq_true rfl)) dL_read_4 ⟨Nat.le_of_ble_eq_true rfl, Nat.le_of_ble_eq_true rfl⟩) hP hD hS hA [1, 2, 3, 4] rfl (by decide) (fun _ => rfl) (fun E5 ce6 a97 u3 H locs h4 hP hD hS h4a h4b h4c => ?_) (fun v2 u3 H locs h4 hP hD hS => ?_)
  · have h4q : q1.1 = xc E5 := by rw [← eq1, h4.1]
    have hP : va_P D vwCl [(a0, .inl (y 4, 1, .inr (.inl od))), (a1, .inr (4, [.ref a2, .ref a3, .ref a4, .ref a5, .ref a6])), (a3, soF a7 a8 r), (a7, soV y r), (a8, soW y r)] H := hP
    have hD : va_D A [(a0, .inl (y 4, 1, .inr (.inl od))), (a1, .inr (4, [.ref a2, .ref a3, .ref a4, .ref a5, .ref a6])), (a3, soF a7 a8 r), (a7, soV y r), (a8, soW y r)] := hD
    rcases xc_E h4.2 with rfl | rfl | rfl
    · rw [xc_IA] at h4q
      have hc := cd_X5_read r p1
      rw [eq1, h4q] at hc
      exact absurd hc (by decide)
    · rw [xc_IS] at h4q
      have hc := cd_X5_read r p1
      rw [eq1, h4q] at hc
      exact absurd hc (by decide)
    · rw [xc_IO] at h4q
      have hF := hF.trans (if_neg (show ¬ q1.1 = 0 by rw [h4q]; decide))
      refine vx_catch hown (tableOf []) ⟨0, 9, 12, 27⟩ (tableOf []) (htab.trans rfl) (fun z hz => nomatch hz) (by decide) (by decide) w_0 (hXE.1.1.2.2.use rfl) h4a h4b h4c ?_
      refine W.eq (g2 := F0 m 12 ls [.ref a97]) rfl ?_
      refine lv_astore_n (lv' := [(3, .ref a97), (0, .ref a1), (1, .int p1), (2, .ref a0)]) hx hb dL_read_12 rfl hl (by decide) rfl (fun ls hl => ?_)
      refine lv_iconst (v := 1) hx hb dL_read_13 (by decide) ?_
      refine W.widen (k := 2) (n := 12) (Nat.le_of_ble_eq_true rfl) (Nat.le_of_ble_eq_true rfl) ?_
      refine vx_ret ?_
      exact W.iret (v := 1) hx hb hr (fun t ht hW => ⟨⟨1, od, rfl, hF, ⟨by rw [ht]; exact hP, hD⟩⟩, hS.F ht⟩) hS.2.2 dL_read_14
  · have h4q : q1.1 = 0 := by rw [← eq1, h4]
    obtain rfl : q1.2 = v2 := by rw [← eq1, h4]
    have hP : va_P D vwCl [(a0, .inl (y 4, 1, .inr (.inl od))), (a1, .inr (4, [.ref a2, .ref a3, .ref a4, .ref a5, .ref a6])), (a3, soF a7 a8 r), (a7, soV y r), (a8, soW y r)] H := hP
    have hD : va_D A [(a0, .inl (y 4, 1, .inr (.inl od))), (a1, .inr (4, [.ref a2, .ref a3, .ref a4, .ref a5, .ref a6])), (a3, soF a7 a8 r), (a7, soV y r), (a8, soW y r)] := hD
    have hF := hF.trans (if_pos h4q)
    refine lv_i2l (v := q1.2.toInt64) hx hb dL_read_7 rfl ?_
    refine va_last hx hb hE.1 hP hD hS 0 4 rfl rfl (xin (by decide)) dL_read_8 (fun H locs hP hD hS => ?_)
    have hP : va_P D vwCl [(a0, .inl (y 4, 1, .inr (.inl (vp_updL od ((0 : Int32).toNatClampNeg) q1.2.toInt64)))), (a1, .inr (4, [.ref a2, .ref a3, .ref a4, .ref a5, .ref a6])), (a3, soF a7 a8 r), (a7, soV y r), (a8, soW y r)] H := hP
    have hD : va_D A [(a0, .inl (y 4, 1, .inr (.inl (vp_updL od ((0 : Int32).toNatClampNeg) q1.2.toInt64)))), (a1, .inr (4, [.ref a2, .ref a3, .ref a4, .ref a5, .ref a6])), (a3, soF a7 a8 r), (a7, soV y r), (a8, soW y r)] := hD
    refine lv_goto (tgt := 15) hx hb dL_read_9 (by decide) ?_
    refine lv_iconst (v := 0) hx hb dL_read_15 (by decide) ?_
    refine W.widen (k := 2) (n := 12) (Nat.le_of_ble_eq_true rfl) (Nat.le_of_ble_eq_true rfl) ?_
    refine vx_ret ?_
    exact W.iret (v := 0) hx hb hr (fun t ht hW => ⟨⟨0, (vp_updL od ((0 : Int32).toNatClampNeg) q1.2.toInt64), rfl, hF, ⟨by rw [ht]; exact hP, hD⟩⟩, hS.F ht⟩) hS.2.2 dL_read_16

def f_L_place (od : Nat → Int64) (r : gR) (p1 : Int32) : Int32 × (Nat → Int64) :=
    gLet (f_X5_place r p1) (fun (q1 : Nat × Int32) =>
    if q1.1 = 0 then
      (0, (vp_updL od ((0 : Int32).toNatClampNeg) q1.2.toInt64))
    else
      (1, od))
theorem f_L_place_s (od : Nat → Int64) (r : gR) (p1 : Int32) : f_L_place od r p1 =
    (gLet (f_X5_place r p1) (fun (q1 : Nat × Int32) =>
    if q1.1 = 0 then
      (0, (vp_updL od ((0 : Int32).toNatClampNeg) q1.2.toInt64))
    else
      (1, od))) := rfl
theorem hd_L_place : yL_place.cls ≠ "java/lang/invoke/MethodHandle" ∧ yL_place.cls ≠ "java/lang/invoke/VarHandle" ∧ (parseMethodDescriptor yL_place.desc).map (fun d => d.parameters.length) = some 3 := by decide +kernel
set_option maxHeartbeats 4000000 in
set_option maxRecDepth 100000 in
theorem c_L_place (l : Launch) (hst : l.stackTraces = false) (D : va_G) (y : Nat → ClassId) (a0 a1 a2 a3 a4 a5 a6 a7 a8 : Nat) (zh : Nat) (od : Nat → Int64) (r : gR) (p1 : Int32) (ho : okC r) : Met l yL_place wsL_place ({ frames := 8, cells := 2, slots := 12, locals := 124 }) (lP D y [.ref a1, .int p1, .ref a0] zh [(a0, .inl (y 4, 1, .inr (.inl od))), (a1, .inr (4, [.ref a2, .ref a3, .ref a4, .ref a5, .ref a6])), (a3, soF a7 a8 r), (a7, soV y r), (a8, soW y r)]) (va_Qi (fun (v : Int32) (u : (Nat → Int64)) => f_L_place od r p1 = (v, u)) (fun (u : (Nat → Int64)) t => va_P D vwCl [(a0, .inl (y 4, 1, .inr (.inl u))), (a1, .inr (4, [.ref a2, .ref a3, .ref a4, .ref a5, .ref a6])), (a3, soF a7 a8 r), (a7, soV y r), (a8, soW y r)] t.heap ∧ va_D (va_A [(a0, .inl (y 4, 1, .inr (.inl od))), (a1, .inr (4, [.ref a2, .ref a3, .ref a4, .ref a5, .ref a6])), (a3, soF a7 a8 r), (a7, soV y r), (a8, soW y r)] zh) [(a0, .inl (y 4, 1, .inr (.inl u))), (a1, .inr (4, [.ref a2, .ref a3, .ref a4, .ref a5, .ref a6])), (a3, soF a7 a8 r), (a7, soV y r), (a8, soW y r)]) (va_A [(a0, .inl (y 4, 1, .inr (.inl od))), (a1, .inr (4, [.ref a2, .ref a3, .ref a4, .ref a5, .ref a6])), (a3, soF a7 a8 r), (a7, soV y r), (a8, soW y r)] zh)) 2 12 (va_A [(a0, .inl (y 4, 1, .inr (.inl od))), (a1, .inr (4, [.ref a2, .ref a3, .ref a4, .ref a5, .ref a6])), (a3, soF a7 a8 r), (a7, soV y r), (a8, soW y r)] zh) := by
  refine xL_of (vx_ofWH (cc := cL_place) (maxL := 4) (ret := (some .int)) (hh := [(0, 9, 12, 27)]) (by decide) rfl ?_)
  intro p e s m args below meth c s₁ B hml hv
  obtain ⟨⟨⟨rfl, hsz, hP, hE, hD⟩, hXE, hXZ⟩, hLN⟩ := hv
  have hx := B.exec
  have hb := B.bytes
  have hr := B.returns
  have hts := atoms_spec (ws := wsL_place) B.pre
  have hown : s.vm.findClass RL = some m.cls := findClass_of_methodNamed B.named
  have hlocks := B.notSynchronized
  have htab := vx_table (x := yL_place) B (hts _ List.mem_cons_self)
  have w_0 := hts (.classLink RL 27 "java/lang/IndexOutOfBoundsException") (List.mem_cons_of_mem _ (List.mem_append_left _ (List.mem_append_left _ (List.mem_append_left _ (List.mem_append_left _ (List.mem_of_getElem? (i := 0) rfl))))))
  subst hsz
  have hD := hD.self (sz := s.heap.size)
  generalize hAe : va_A [(a0, .inl (y 4, 1, .inr (.inl od))), (a1, .inr (4, [.ref a2, .ref a3, .ref a4, .ref a5, .ref a6])), (a3, soF a7 a8 r), (a7, soV y r), (a8, soW y r)] s.heap.size = A at hD hXZ ⊢
  have hA : ∀ q : Nat, s.heap.size ≤ q → A q := fun q h => by rw [← hAe]; exact Or.inr h
  have hS : va_S A s.heap s.heap [] := va_S.rf
  have hl := lv_entry ([.ref a1, .int p1, .ref a0]) (n := 4) (Nat.le_of_ble_eq_true rfl)
  rw [lg_entry_eq]
  generalize (lg_sl ([.ref a1, .int p1, .ref a0]) ++ List.replicate (4 - (lg_sl ([.ref a1, .int p1, .ref a0])).length) Slot.unset).toArray = ls at hl ⊢
  have hl : lv_has ls 4 [(0, .ref a1), (1, .int p1), (2, .ref a0)] := hl
  have hF := f_L_place_s od r p1
  refine lv_aload_n hx hb dL_place_0 rfl (lv_at hl 2 rfl) ?_
  refine lv_iconst (v := 0) hx hb dL_place_1 (by decide) ?_
  refine lv_aload_n hx hb dL_place_2 rfl (lv_at hl 0 rfl) ?_
  refine lv_iload_n hx hb dL_place_3 rfl (lv_at hl 1 rfl) ?_
  obtain ⟨q1, eq1⟩ : ∃ z : Nat × Int32, f_X5_place r p1 = z := ⟨_, rfl⟩
  have hF := hF.trans (gLet_e eq1)
  refine xq_calli (vx_runV (As := [.int p1]) (rest := [.int 0, .ref a0]) ⟨hx, hb, hml, hown, hts⟩ (c_X5_place l hst D y a1 a2 a3 a4 a5 a6 a7 a8 s.heap.size r p1 ho) (cwV 1 hts gL_place_X5_place rfl rfl rfl hd_X5_place ⟨Nat.le_of_ble_eq_true rfl, Nat.le_of_ble_eq_true rfl⟩) (xV (q := (RX5, TX5, 5)) hE hXE hXZ hS hA (hP.sub [1, 2, 3, 4] rfl) (hD.sub [1, 2, 3, 4] (by decide) rfl) 0 rfl rfl) rfl rfl hl.1 rfl (lv_room (Nat.le_of_ble_eq_true rfl)) dL_place_4 ⟨Nat.le_of_ble_eq_true rfl, Nat.le_of_ble_eq_true rfl⟩) hP hD hS hA [1, 2, 3, 4] rfl (by decide) (fun _ => rfl) (fun E5 ce6 a97 u3 H locs h4 hP hD hS h4a h4b h4c => ?_) (fun v2 u3 H locs h4 hP hD hS => ?_)
  · have h4q : q1.1 = xc E5 := by rw [← eq1, h4.1]
    have hP : va_P D vwCl [(a0, .inl (y 4, 1, .inr (.inl od))), (a1, .inr (4, [.ref a2, .ref a3, .ref a4, .ref a5, .ref a6])), (a3, soF a7 a8 r), (a7, soV y r), (a8, soW y r)] H := hP
    have hD : va_D A [(a0, .inl (y 4, 1, .inr (.inl od))), (a1, .inr (4, [.ref a2, .ref a3, .ref a4, .ref a5, .ref a6])), (a3, soF a7 a8 r), (a7, soV y r), (a8, soW y r)] := hD
    rcases xc_E h4.2 with rfl | rfl | rfl
    · rw [xc_IA] at h4q
      have hc := cd_X5_place r p1
      rw [eq1, h4q] at hc
      exact absurd hc (by decide)
    · rw [xc_IS] at h4q
      have hc := cd_X5_place r p1
      rw [eq1, h4q] at hc
      exact absurd hc (by decide)
    · rw [xc_IO] at h4q
      have hF := hF.trans (if_neg (show ¬ q1.1 = 0 by rw [h4q]; decide))
      refine vx_catch hown (tableOf []) ⟨0, 9, 12, 27⟩ (tableOf []) (htab.trans rfl) (fun z hz => nomatch hz) (by decide) (by decide) w_0 (hXE.1.1.2.2.use rfl) h4a h4b h4c ?_
      refine W.eq (g2 := F0 m 12 ls [.ref a97]) rfl ?_
      refine lv_astore_n (lv' := [(3, .ref a97), (0, .ref a1), (1, .int p1), (2, .ref a0)]) hx hb dL_place_12 rfl hl (by decide) rfl (fun ls hl => ?_)
      refine lv_iconst (v := 1) hx hb dL_place_13 (by decide) ?_
      refine W.widen (k := 2) (n := 12) (Nat.le_of_ble_eq_true rfl) (Nat.le_of_ble_eq_true rfl) ?_
      refine vx_ret ?_
      exact W.iret (v := 1) hx hb hr (fun t ht hW => ⟨⟨1, od, rfl, hF, ⟨by rw [ht]; exact hP, hD⟩⟩, hS.F ht⟩) hS.2.2 dL_place_14
  · have h4q : q1.1 = 0 := by rw [← eq1, h4]
    obtain rfl : q1.2 = v2 := by rw [← eq1, h4]
    have hP : va_P D vwCl [(a0, .inl (y 4, 1, .inr (.inl od))), (a1, .inr (4, [.ref a2, .ref a3, .ref a4, .ref a5, .ref a6])), (a3, soF a7 a8 r), (a7, soV y r), (a8, soW y r)] H := hP
    have hD : va_D A [(a0, .inl (y 4, 1, .inr (.inl od))), (a1, .inr (4, [.ref a2, .ref a3, .ref a4, .ref a5, .ref a6])), (a3, soF a7 a8 r), (a7, soV y r), (a8, soW y r)] := hD
    have hF := hF.trans (if_pos h4q)
    refine lv_i2l (v := q1.2.toInt64) hx hb dL_place_7 rfl ?_
    refine va_last hx hb hE.1 hP hD hS 0 4 rfl rfl (xin (by decide)) dL_place_8 (fun H locs hP hD hS => ?_)
    have hP : va_P D vwCl [(a0, .inl (y 4, 1, .inr (.inl (vp_updL od ((0 : Int32).toNatClampNeg) q1.2.toInt64)))), (a1, .inr (4, [.ref a2, .ref a3, .ref a4, .ref a5, .ref a6])), (a3, soF a7 a8 r), (a7, soV y r), (a8, soW y r)] H := hP
    have hD : va_D A [(a0, .inl (y 4, 1, .inr (.inl (vp_updL od ((0 : Int32).toNatClampNeg) q1.2.toInt64)))), (a1, .inr (4, [.ref a2, .ref a3, .ref a4, .ref a5, .ref a6])), (a3, soF a7 a8 r), (a7, soV y r), (a8, soW y r)] := hD
    refine lv_goto (tgt := 15) hx hb dL_place_9 (by decide) ?_
    refine lv_iconst (v := 0) hx hb dL_place_15 (by decide) ?_
    refine W.widen (k := 2) (n := 12) (Nat.le_of_ble_eq_true rfl) (Nat.le_of_ble_eq_true rfl) ?_
    refine vx_ret ?_
    exact W.iret (v := 0) hx hb hr (fun t ht hW => ⟨⟨0, (vp_updL od ((0 : Int32).toNatClampNeg) q1.2.toInt64), rfl, hF, ⟨by rw [ht]; exact hP, hD⟩⟩, hS.F ht⟩) hS.2.2 dL_place_16

def f_L_line (od : Nat → Int64) (r : gR) (p1 : Int32) : Int32 × (Nat → Int64) :=
    gLet (f_X5_line r p1) (fun (q1 : Nat × Int32) =>
    if q1.1 = 0 then
      (0, (vp_updL od ((0 : Int32).toNatClampNeg) q1.2.toInt64))
    else
      (1, od))
theorem f_L_line_s (od : Nat → Int64) (r : gR) (p1 : Int32) : f_L_line od r p1 =
    (gLet (f_X5_line r p1) (fun (q1 : Nat × Int32) =>
    if q1.1 = 0 then
      (0, (vp_updL od ((0 : Int32).toNatClampNeg) q1.2.toInt64))
    else
      (1, od))) := rfl
theorem hd_L_line : yL_line.cls ≠ "java/lang/invoke/MethodHandle" ∧ yL_line.cls ≠ "java/lang/invoke/VarHandle" ∧ (parseMethodDescriptor yL_line.desc).map (fun d => d.parameters.length) = some 3 := by decide +kernel
set_option maxHeartbeats 4000000 in
set_option maxRecDepth 100000 in
theorem c_L_line (l : Launch) (hst : l.stackTraces = false) (D : va_G) (y : Nat → ClassId) (a0 a1 a2 a3 a4 a5 a6 a7 a8 : Nat) (zh : Nat) (od : Nat → Int64) (r : gR) (p1 : Int32) (ho : okC r) : Met l yL_line wsL_line ({ frames := 8, cells := 2, slots := 12, locals := 124 }) (lP D y [.ref a1, .int p1, .ref a0] zh [(a0, .inl (y 4, 1, .inr (.inl od))), (a1, .inr (4, [.ref a2, .ref a3, .ref a4, .ref a5, .ref a6])), (a3, soF a7 a8 r), (a7, soV y r), (a8, soW y r)]) (va_Qi (fun (v : Int32) (u : (Nat → Int64)) => f_L_line od r p1 = (v, u)) (fun (u : (Nat → Int64)) t => va_P D vwCl [(a0, .inl (y 4, 1, .inr (.inl u))), (a1, .inr (4, [.ref a2, .ref a3, .ref a4, .ref a5, .ref a6])), (a3, soF a7 a8 r), (a7, soV y r), (a8, soW y r)] t.heap ∧ va_D (va_A [(a0, .inl (y 4, 1, .inr (.inl od))), (a1, .inr (4, [.ref a2, .ref a3, .ref a4, .ref a5, .ref a6])), (a3, soF a7 a8 r), (a7, soV y r), (a8, soW y r)] zh) [(a0, .inl (y 4, 1, .inr (.inl u))), (a1, .inr (4, [.ref a2, .ref a3, .ref a4, .ref a5, .ref a6])), (a3, soF a7 a8 r), (a7, soV y r), (a8, soW y r)]) (va_A [(a0, .inl (y 4, 1, .inr (.inl od))), (a1, .inr (4, [.ref a2, .ref a3, .ref a4, .ref a5, .ref a6])), (a3, soF a7 a8 r), (a7, soV y r), (a8, soW y r)] zh)) 2 12 (va_A [(a0, .inl (y 4, 1, .inr (.inl od))), (a1, .inr (4, [.ref a2, .ref a3, .ref a4, .ref a5, .ref a6])), (a3, soF a7 a8 r), (a7, soV y r), (a8, soW y r)] zh) := by
  refine xL_of (vx_ofWH (cc := cL_line) (maxL := 4) (ret := (some .int)) (hh := [(0, 9, 12, 27)]) (by decide) rfl ?_)
  intro p e s m args below meth c s₁ B hml hv
  obtain ⟨⟨⟨rfl, hsz, hP, hE, hD⟩, hXE, hXZ⟩, hLN⟩ := hv
  have hx := B.exec
  have hb := B.bytes
  have hr := B.returns
  have hts := atoms_spec (ws := wsL_line) B.pre
  have hown : s.vm.findClass RL = some m.cls := findClass_of_methodNamed B.named
  have hlocks := B.notSynchronized
  have htab := vx_table (x := yL_line) B (hts _ List.mem_cons_self)
  have w_0 := hts (.classLink RL 27 "java/lang/IndexOutOfBoundsException") (List.mem_cons_of_mem _ (List.mem_append_left _ (List.mem_append_left _ (List.mem_append_left _ (List.mem_append_left _ (List.mem_of_getElem? (i := 0) rfl))))))
  subst hsz
  have hD := hD.self (sz := s.heap.size)
  generalize hAe : va_A [(a0, .inl (y 4, 1, .inr (.inl od))), (a1, .inr (4, [.ref a2, .ref a3, .ref a4, .ref a5, .ref a6])), (a3, soF a7 a8 r), (a7, soV y r), (a8, soW y r)] s.heap.size = A at hD hXZ ⊢
  have hA : ∀ q : Nat, s.heap.size ≤ q → A q := fun q h => by rw [← hAe]; exact Or.inr h
  have hS : va_S A s.heap s.heap [] := va_S.rf
  have hl := lv_entry ([.ref a1, .int p1, .ref a0]) (n := 4) (Nat.le_of_ble_eq_true rfl)
  rw [lg_entry_eq]
  generalize (lg_sl ([.ref a1, .int p1, .ref a0]) ++ List.replicate (4 - (lg_sl ([.ref a1, .int p1, .ref a0])).length) Slot.unset).toArray = ls at hl ⊢
  have hl : lv_has ls 4 [(0, .ref a1), (1, .int p1), (2, .ref a0)] := hl
  have hF := f_L_line_s od r p1
  refine lv_aload_n hx hb dL_line_0 rfl (lv_at hl 2 rfl) ?_
  refine lv_iconst (v := 0) hx hb dL_line_1 (by decide) ?_
  refine lv_aload_n hx hb dL_line_2 rfl (lv_at hl 0 rfl) ?_
  refine lv_iload_n hx hb dL_line_3 rfl (lv_at hl 1 rfl) ?_
  obtain ⟨q1, eq1⟩ : ∃ z : Nat × Int32, f_X5_line r p1 = z := ⟨_, rfl⟩
  have hF := hF.trans (gLet_e eq1)
  refine xq_calli (vx_runV (As := [.int p1]) (rest := [.int 0, .ref a0]) ⟨hx, hb, hml, hown, hts⟩ (c_X5_line l hst D y a1 a2 a3 a4 a5 a6 a7 a8 s.heap.size r p1 ho) (cwV 1 hts gL_line_X5_line rfl rfl rfl hd_X5_line ⟨Nat.le_of_ble_eq_true rfl, Nat.le_of_ble_eq_true rfl⟩) (xV (q := (RX5, TX5, 5)) hE hXE hXZ hS hA (hP.sub [1, 2, 3, 4] rfl) (hD.sub [1, 2, 3, 4] (by decide) rfl) 0 rfl rfl) rfl rfl hl.1 rfl (lv_room (Nat.le_of_ble_eq_true rfl)) dL_line_4 ⟨Nat.le_of_ble_eq_true rfl, Nat.le_of_ble_eq_true rfl⟩) hP hD hS hA [1, 2, 3, 4] rfl (by decide) (fun _ => rfl) (fun E5 ce6 a97 u3 H locs h4 hP hD hS h4a h4b h4c => ?_) (fun v2 u3 H locs h4 hP hD hS => ?_)
  · have h4q : q1.1 = xc E5 := by rw [← eq1, h4.1]
    have hP : va_P D vwCl [(a0, .inl (y 4, 1, .inr (.inl od))), (a1, .inr (4, [.ref a2, .ref a3, .ref a4, .ref a5, .ref a6])), (a3, soF a7 a8 r), (a7, soV y r), (a8, soW y r)] H := hP
    have hD : va_D A [(a0, .inl (y 4, 1, .inr (.inl od))), (a1, .inr (4, [.ref a2, .ref a3, .ref a4, .ref a5, .ref a6])), (a3, soF a7 a8 r), (a7, soV y r), (a8, soW y r)] := hD
    rcases xc_E h4.2 with rfl | rfl | rfl
    · rw [xc_IA] at h4q
      have hc := cd_X5_line r p1
      rw [eq1, h4q] at hc
      exact absurd hc (by decide)
    · rw [xc_IS] at h4q
      have hc := cd_X5_line r p1
      rw [eq1, h4q] at hc
      exact absurd hc (by decide)
    · rw [xc_IO] at h4q
      have hF := hF.trans (if_neg (show ¬ q1.1 = 0 by rw [h4q]; decide))
      refine vx_catch hown (tableOf []) ⟨0, 9, 12, 27⟩ (tableOf []) (htab.trans rfl) (fun z hz => nomatch hz) (by decide) (by decide) w_0 (hXE.1.1.2.2.use rfl) h4a h4b h4c ?_
      refine W.eq (g2 := F0 m 12 ls [.ref a97]) rfl ?_
      refine lv_astore_n (lv' := [(3, .ref a97), (0, .ref a1), (1, .int p1), (2, .ref a0)]) hx hb dL_line_12 rfl hl (by decide) rfl (fun ls hl => ?_)
      refine lv_iconst (v := 1) hx hb dL_line_13 (by decide) ?_
      refine W.widen (k := 2) (n := 12) (Nat.le_of_ble_eq_true rfl) (Nat.le_of_ble_eq_true rfl) ?_
      refine vx_ret ?_
      exact W.iret (v := 1) hx hb hr (fun t ht hW => ⟨⟨1, od, rfl, hF, ⟨by rw [ht]; exact hP, hD⟩⟩, hS.F ht⟩) hS.2.2 dL_line_14
  · have h4q : q1.1 = 0 := by rw [← eq1, h4]
    obtain rfl : q1.2 = v2 := by rw [← eq1, h4]
    have hP : va_P D vwCl [(a0, .inl (y 4, 1, .inr (.inl od))), (a1, .inr (4, [.ref a2, .ref a3, .ref a4, .ref a5, .ref a6])), (a3, soF a7 a8 r), (a7, soV y r), (a8, soW y r)] H := hP
    have hD : va_D A [(a0, .inl (y 4, 1, .inr (.inl od))), (a1, .inr (4, [.ref a2, .ref a3, .ref a4, .ref a5, .ref a6])), (a3, soF a7 a8 r), (a7, soV y r), (a8, soW y r)] := hD
    have hF := hF.trans (if_pos h4q)
    refine lv_i2l (v := q1.2.toInt64) hx hb dL_line_7 rfl ?_
    refine va_last hx hb hE.1 hP hD hS 0 4 rfl rfl (xin (by decide)) dL_line_8 (fun H locs hP hD hS => ?_)
    have hP : va_P D vwCl [(a0, .inl (y 4, 1, .inr (.inl (vp_updL od ((0 : Int32).toNatClampNeg) q1.2.toInt64)))), (a1, .inr (4, [.ref a2, .ref a3, .ref a4, .ref a5, .ref a6])), (a3, soF a7 a8 r), (a7, soV y r), (a8, soW y r)] H := hP
    have hD : va_D A [(a0, .inl (y 4, 1, .inr (.inl (vp_updL od ((0 : Int32).toNatClampNeg) q1.2.toInt64)))), (a1, .inr (4, [.ref a2, .ref a3, .ref a4, .ref a5, .ref a6])), (a3, soF a7 a8 r), (a7, soV y r), (a8, soW y r)] := hD
    refine lv_goto (tgt := 15) hx hb dL_line_9 (by decide) ?_
    refine lv_iconst (v := 0) hx hb dL_line_15 (by decide) ?_
    refine W.widen (k := 2) (n := 12) (Nat.le_of_ble_eq_true rfl) (Nat.le_of_ble_eq_true rfl) ?_
    refine vx_ret ?_
    exact W.iret (v := 0) hx hb hr (fun t ht hW => ⟨⟨0, (vp_updL od ((0 : Int32).toNatClampNeg) q1.2.toInt64), rfl, hF, ⟨by rw [ht]; exact hP, hD⟩⟩, hS.F ht⟩) hS.2.2 dL_line_16

def f_L_wear (od : Nat → Int64) (r : gR) (p1 : Int32) : Int32 × (Nat → Int64) :=
    gLet (f_X5_wear r p1) (fun (q1 : Nat × Int32) =>
    if q1.1 = 0 then
      (0, (vp_updL od ((0 : Int32).toNatClampNeg) q1.2.toInt64))
    else
      (1, od))
theorem f_L_wear_s (od : Nat → Int64) (r : gR) (p1 : Int32) : f_L_wear od r p1 =
    (gLet (f_X5_wear r p1) (fun (q1 : Nat × Int32) =>
    if q1.1 = 0 then
      (0, (vp_updL od ((0 : Int32).toNatClampNeg) q1.2.toInt64))
    else
      (1, od))) := rfl
theorem hd_L_wear : yL_wear.cls ≠ "java/lang/invoke/MethodHandle" ∧ yL_wear.cls ≠ "java/lang/invoke/VarHandle" ∧ (parseMethodDescriptor yL_wear.desc).map (fun d => d.parameters.length) = some 3 := by decide +kernel
set_option maxHeartbeats 4000000 in
set_option maxRecDepth 100000 in
theorem c_L_wear (l : Launch) (hst : l.stackTraces = false) (D : va_G) (y : Nat → ClassId) (a0 a1 a2 a3 a4 a5 a6 a7 a8 : Nat) (zh : Nat) (od : Nat → Int64) (r : gR) (p1 : Int32) (ho : okC r) : Met l yL_wear wsL_wear ({ frames := 8, cells := 2, slots := 12, locals := 124 }) (lP D y [.ref a1, .int p1, .ref a0] zh [(a0, .inl (y 4, 1, .inr (.inl od))), (a1, .inr (4, [.ref a2, .ref a3, .ref a4, .ref a5, .ref a6])), (a3, soF a7 a8 r), (a7, soV y r), (a8, soW y r)]) (va_Qi (fun (v : Int32) (u : (Nat → Int64)) => f_L_wear od r p1 = (v, u)) (fun (u : (Nat → Int64)) t => va_P D vwCl [(a0, .inl (y 4, 1, .inr (.inl u))), (a1, .inr (4, [.ref a2, .ref a3, .ref a4, .ref a5, .ref a6])), (a3, soF a7 a8 r), (a7, soV y r), (a8, soW y r)] t.heap ∧ va_D (va_A [(a0, .inl (y 4, 1, .inr (.inl od))), (a1, .inr (4, [.ref a2, .ref a3, .ref a4, .ref a5, .ref a6])), (a3, soF a7 a8 r), (a7, soV y r), (a8, soW y r)] zh) [(a0, .inl (y 4, 1, .inr (.inl u))), (a1, .inr (4, [.ref a2, .ref a3, .ref a4, .ref a5, .ref a6])), (a3, soF a7 a8 r), (a7, soV y r), (a8, soW y r)]) (va_A [(a0, .inl (y 4, 1, .inr (.inl od))), (a1, .inr (4, [.ref a2, .ref a3, .ref a4, .ref a5, .ref a6])), (a3, soF a7 a8 r), (a7, soV y r), (a8, soW y r)] zh)) 2 12 (va_A [(a0, .inl (y 4, 1, .inr (.inl od))), (a1, .inr (4, [.ref a2, .ref a3, .ref a4, .ref a5, .ref a6])), (a3, soF a7 a8 r), (a7, soV y r), (a8, soW y r)] zh) := by
  refine xL_of (vx_ofWH (cc := cL_wear) (maxL := 4) (ret := (some .int)) (hh := [(0, 9, 12, 27)]) (by decide) rfl ?_)
  intro p e s m args below meth c s₁ B hml hv
  obtain ⟨⟨⟨rfl, hsz, hP, hE, hD⟩, hXE, hXZ⟩, hLN⟩ := hv
  have hx := B.exec
  have hb := B.bytes
  have hr := B.returns
  have hts := atoms_spec (ws := wsL_wear) B.pre
  have hown : s.vm.findClass RL = some m.cls := findClass_of_methodNamed B.named
  have hlocks := B.notSynchronized
  have htab := vx_table (x := yL_wear) B (hts _ List.mem_cons_self)
  have w_0 := hts (.classLink RL 27 "java/lang/IndexOutOfBoundsException") (List.mem_cons_of_mem _ (List.mem_append_left _ (List.mem_append_left _ (List.mem_append_left _ (List.mem_append_left _ (List.mem_of_getElem? (i := 0) rfl))))))
  subst hsz
  have hD := hD.self (sz := s.heap.size)
  generalize hAe : va_A [(a0, .inl (y 4, 1, .inr (.inl od))), (a1, .inr (4, [.ref a2, .ref a3, .ref a4, .ref a5, .ref a6])), (a3, soF a7 a8 r), (a7, soV y r), (a8, soW y r)] s.heap.size = A at hD hXZ ⊢
  have hA : ∀ q : Nat, s.heap.size ≤ q → A q := fun q h => by rw [← hAe]; exact Or.inr h
  have hS : va_S A s.heap s.heap [] := va_S.rf
  have hl := lv_entry ([.ref a1, .int p1, .ref a0]) (n := 4) (Nat.le_of_ble_eq_true rfl)
  rw [lg_entry_eq]
  generalize (lg_sl ([.ref a1, .int p1, .ref a0]) ++ List.replicate (4 - (lg_sl ([.ref a1, .int p1, .ref a0])).length) Slot.unset).toArray = ls at hl ⊢
  have hl : lv_has ls 4 [(0, .ref a1), (1, .int p1), (2, .ref a0)] := hl
  have hF := f_L_wear_s od r p1
  refine lv_aload_n hx hb dL_wear_0 rfl (lv_at hl 2 rfl) ?_
  refine lv_iconst (v := 0) hx hb dL_wear_1 (by decide) ?_
  refine lv_aload_n hx hb dL_wear_2 rfl (lv_at hl 0 rfl) ?_
  refine lv_iload_n hx hb dL_wear_3 rfl (lv_at hl 1 rfl) ?_
  obtain ⟨q1, eq1⟩ : ∃ z : Nat × Int32, f_X5_wear r p1 = z := ⟨_, rfl⟩
  have hF := hF.trans (gLet_e eq1)
  refine xq_calli (vx_runV (As := [.int p1]) (rest := [.int 0, .ref a0]) ⟨hx, hb, hml, hown, hts⟩ (c_X5_wear l hst D y a1 a2 a3 a4 a5 a6 a7 a8 s.heap.size r p1 ho) (cwV 1 hts gL_wear_X5_wear rfl rfl rfl hd_X5_wear ⟨Nat.le_of_ble_eq_true rfl, Nat.le_of_ble_eq_true rfl⟩) (xV (q := (RX5, TX5, 5)) hE hXE hXZ hS hA (hP.sub [1, 2, 3, 4] rfl) (hD.sub [1, 2, 3, 4] (by decide) rfl) 0 rfl rfl) rfl rfl hl.1 rfl (lv_room (Nat.le_of_ble_eq_true rfl)) dL_wear_4 ⟨Nat.le_of_ble_eq_true rfl, Nat.le_of_ble_eq_true rfl⟩) hP hD hS hA [1, 2, 3, 4] rfl (by decide) (fun _ => rfl) (fun E5 ce6 a97 u3 H locs h4 hP hD hS h4a h4b h4c => ?_) (fun v2 u3 H locs h4 hP hD hS => ?_)
  · have h4q : q1.1 = xc E5 := by rw [← eq1, h4.1]
    have hP : va_P D vwCl [(a0, .inl (y 4, 1, .inr (.inl od))), (a1, .inr (4, [.ref a2, .ref a3, .ref a4, .ref a5, .ref a6])), (a3, soF a7 a8 r), (a7, soV y r), (a8, soW y r)] H := hP
    have hD : va_D A [(a0, .inl (y 4, 1, .inr (.inl od))), (a1, .inr (4, [.ref a2, .ref a3, .ref a4, .ref a5, .ref a6])), (a3, soF a7 a8 r), (a7, soV y r), (a8, soW y r)] := hD
    rcases xc_E h4.2 with rfl | rfl | rfl
    · rw [xc_IA] at h4q
      have hc := cd_X5_wear r p1
      rw [eq1, h4q] at hc
      exact absurd hc (by decide)
    · rw [xc_IS] at h4q
      have hc := cd_X5_wear r p1
      rw [eq1, h4q] at hc
      exact absurd hc (by decide)
    · rw [xc_IO] at h4q
      have hF := hF.trans (if_neg (show ¬ q1.1 = 0 by rw [h4q]; decide))
      refine vx_catch hown (tableOf []) ⟨0, 9, 12, 27⟩ (tableOf []) (htab.trans rfl) (fun z hz => nomatch hz) (by decide) (by decide) w_0 (hXE.1.1.2.2.use rfl) h4a h4b h4c ?_
      refine W.eq (g2 := F0 m 12 ls [.ref a97]) rfl ?_
      refine lv_astore_n (lv' := [(3, .ref a97), (0, .ref a1), (1, .int p1), (2, .ref a0)]) hx hb dL_wear_12 rfl hl (by decide) rfl (fun ls hl => ?_)
      refine lv_iconst (v := 1) hx hb dL_wear_13 (by decide) ?_
      refine W.widen (k := 2) (n := 12) (Nat.le_of_ble_eq_true rfl) (Nat.le_of_ble_eq_true rfl) ?_
      refine vx_ret ?_
      exact W.iret (v := 1) hx hb hr (fun t ht hW => ⟨⟨1, od, rfl, hF, ⟨by rw [ht]; exact hP, hD⟩⟩, hS.F ht⟩) hS.2.2 dL_wear_14
  · have h4q : q1.1 = 0 := by rw [← eq1, h4]
    obtain rfl : q1.2 = v2 := by rw [← eq1, h4]
    have hP : va_P D vwCl [(a0, .inl (y 4, 1, .inr (.inl od))), (a1, .inr (4, [.ref a2, .ref a3, .ref a4, .ref a5, .ref a6])), (a3, soF a7 a8 r), (a7, soV y r), (a8, soW y r)] H := hP
    have hD : va_D A [(a0, .inl (y 4, 1, .inr (.inl od))), (a1, .inr (4, [.ref a2, .ref a3, .ref a4, .ref a5, .ref a6])), (a3, soF a7 a8 r), (a7, soV y r), (a8, soW y r)] := hD
    have hF := hF.trans (if_pos h4q)
    refine lv_i2l (v := q1.2.toInt64) hx hb dL_wear_7 rfl ?_
    refine va_last hx hb hE.1 hP hD hS 0 4 rfl rfl (xin (by decide)) dL_wear_8 (fun H locs hP hD hS => ?_)
    have hP : va_P D vwCl [(a0, .inl (y 4, 1, .inr (.inl (vp_updL od ((0 : Int32).toNatClampNeg) q1.2.toInt64)))), (a1, .inr (4, [.ref a2, .ref a3, .ref a4, .ref a5, .ref a6])), (a3, soF a7 a8 r), (a7, soV y r), (a8, soW y r)] H := hP
    have hD : va_D A [(a0, .inl (y 4, 1, .inr (.inl (vp_updL od ((0 : Int32).toNatClampNeg) q1.2.toInt64)))), (a1, .inr (4, [.ref a2, .ref a3, .ref a4, .ref a5, .ref a6])), (a3, soF a7 a8 r), (a7, soV y r), (a8, soW y r)] := hD
    refine lv_goto (tgt := 15) hx hb dL_wear_9 (by decide) ?_
    refine lv_iconst (v := 0) hx hb dL_wear_15 (by decide) ?_
    refine W.widen (k := 2) (n := 12) (Nat.le_of_ble_eq_true rfl) (Nat.le_of_ble_eq_true rfl) ?_
    refine vx_ret ?_
    exact W.iret (v := 0) hx hb hr (fun t ht hW => ⟨⟨0, (vp_updL od ((0 : Int32).toNatClampNeg) q1.2.toInt64), rfl, hF, ⟨by rw [ht]; exact hP, hD⟩⟩, hS.F ht⟩) hS.2.2 dL_wear_16

def f_L_setting (od : Nat → Int64) (r : gR) (p1 : Int32) : Int32 × (Nat → Int64) :=
    gLet (f_X5_setting r p1) (fun (q1 : Nat × Int32) =>
    if q1.1 = 0 then
      (0, (vp_updL od ((0 : Int32).toNatClampNeg) q1.2.toInt64))
    else
      (1, od))
theorem f_L_setting_s (od : Nat → Int64) (r : gR) (p1 : Int32) : f_L_setting od r p1 =
    (gLet (f_X5_setting r p1) (fun (q1 : Nat × Int32) =>
    if q1.1 = 0 then
      (0, (vp_updL od ((0 : Int32).toNatClampNeg) q1.2.toInt64))
    else
      (1, od))) := rfl
theorem hd_L_setting : yL_setting.cls ≠ "java/lang/invoke/MethodHandle" ∧ yL_setting.cls ≠ "java/lang/invoke/VarHandle" ∧ (parseMethodDescriptor yL_setting.desc).map (fun d => d.parameters.length) = some 3 := by decide +kernel
set_option maxHeartbeats 4000000 in
set_option maxRecDepth 100000 in
theorem c_L_setting (l : Launch) (hst : l.stackTraces = false) (D : va_G) (y : Nat → ClassId) (a0 a1 a2 a3 a4 a5 a6 a7 a8 : Nat) (zh : Nat) (od : Nat → Int64) (r : gR) (p1 : Int32) (ho : okC r) : Met l yL_setting wsL_setting ({ frames := 8, cells := 2, slots := 12, locals := 123 }) (lP D y [.ref a1, .int p1, .ref a0] zh [(a0, .inl (y 4, 1, .inr (.inl od))), (a1, .inr (4, [.ref a2, .ref a3, .ref a4, .ref a5, .ref a6])), (a3, soF a7 a8 r), (a7, soV y r), (a8, soW y r)]) (va_Qi (fun (v : Int32) (u : (Nat → Int64)) => f_L_setting od r p1 = (v, u)) (fun (u : (Nat → Int64)) t => va_P D vwCl [(a0, .inl (y 4, 1, .inr (.inl u))), (a1, .inr (4, [.ref a2, .ref a3, .ref a4, .ref a5, .ref a6])), (a3, soF a7 a8 r), (a7, soV y r), (a8, soW y r)] t.heap ∧ va_D (va_A [(a0, .inl (y 4, 1, .inr (.inl od))), (a1, .inr (4, [.ref a2, .ref a3, .ref a4, .ref a5, .ref a6])), (a3, soF a7 a8 r), (a7, soV y r), (a8, soW y r)] zh) [(a0, .inl (y 4, 1, .inr (.inl u))), (a1, .inr (4, [.ref a2, .ref a3, .ref a4, .ref a5, .ref a6])), (a3, soF a7 a8 r), (a7, soV y r), (a8, soW y r)]) (va_A [(a0, .inl (y 4, 1, .inr (.inl od))), (a1, .inr (4, [.ref a2, .ref a3, .ref a4, .ref a5, .ref a6])), (a3, soF a7 a8 r), (a7, soV y r), (a8, soW y r)] zh)) 2 12 (va_A [(a0, .inl (y 4, 1, .inr (.inl od))), (a1, .inr (4, [.ref a2, .ref a3, .ref a4, .ref a5, .ref a6])), (a3, soF a7 a8 r), (a7, soV y r), (a8, soW y r)] zh) := by
  refine xL_of (vx_ofWH (cc := cL_setting) (maxL := 4) (ret := (some .int)) (hh := [(0, 9, 12, 13)]) (by decide) rfl ?_)
  intro p e s m args below meth c s₁ B hml hv
  obtain ⟨⟨⟨rfl, hsz, hP, hE, hD⟩, hXE, hXZ⟩, hLN⟩ := hv
  have hx := B.exec
  have hb := B.bytes
  have hr := B.returns
  have hts := atoms_spec (ws := wsL_setting) B.pre
  have hown : s.vm.findClass RL = some m.cls := findClass_of_methodNamed B.named
  have hlocks := B.notSynchronized
  have htab := vx_table (x := yL_setting) B (hts _ List.mem_cons_self)
  have w_0 := hts (.classLink RL 13 "java/lang/IllegalArgumentException") (List.mem_cons_of_mem _ (List.mem_append_left _ (List.mem_append_left _ (List.mem_append_left _ (List.mem_of_getElem? (i := 0) rfl)))))
  subst hsz
  have hD := hD.self (sz := s.heap.size)
  generalize hAe : va_A [(a0, .inl (y 4, 1, .inr (.inl od))), (a1, .inr (4, [.ref a2, .ref a3, .ref a4, .ref a5, .ref a6])), (a3, soF a7 a8 r), (a7, soV y r), (a8, soW y r)] s.heap.size = A at hD hXZ ⊢
  have hA : ∀ q : Nat, s.heap.size ≤ q → A q := fun q h => by rw [← hAe]; exact Or.inr h
  have hS : va_S A s.heap s.heap [] := va_S.rf
  have hl := lv_entry ([.ref a1, .int p1, .ref a0]) (n := 4) (Nat.le_of_ble_eq_true rfl)
  rw [lg_entry_eq]
  generalize (lg_sl ([.ref a1, .int p1, .ref a0]) ++ List.replicate (4 - (lg_sl ([.ref a1, .int p1, .ref a0])).length) Slot.unset).toArray = ls at hl ⊢
  have hl : lv_has ls 4 [(0, .ref a1), (1, .int p1), (2, .ref a0)] := hl
  have hF := f_L_setting_s od r p1
  refine lv_aload_n hx hb dL_setting_0 rfl (lv_at hl 2 rfl) ?_
  refine lv_iconst (v := 0) hx hb dL_setting_1 (by decide) ?_
  refine lv_aload_n hx hb dL_setting_2 rfl (lv_at hl 0 rfl) ?_
  refine lv_iload_n hx hb dL_setting_3 rfl (lv_at hl 1 rfl) ?_
  obtain ⟨q1, eq1⟩ : ∃ z : Nat × Int32, f_X5_setting r p1 = z := ⟨_, rfl⟩
  have hF := hF.trans (gLet_e eq1)
  refine xq_calli (vx_runV (As := [.int p1]) (rest := [.int 0, .ref a0]) ⟨hx, hb, hml, hown, hts⟩ (c_X5_setting l hst D y a1 a2 a3 a4 a5 a6 a7 a8 s.heap.size r p1 ho) (cwV 1 hts gL_setting_X5_setting rfl rfl rfl hd_X5_setting ⟨Nat.le_of_ble_eq_true rfl, Nat.le_of_ble_eq_true rfl⟩) (xV (q := (RX5, TX5, 5)) hE hXE hXZ hS hA (hP.sub [1, 2, 3, 4] rfl) (hD.sub [1, 2, 3, 4] (by decide) rfl) 0 rfl rfl) rfl rfl hl.1 rfl (lv_room (Nat.le_of_ble_eq_true rfl)) dL_setting_4 ⟨Nat.le_of_ble_eq_true rfl, Nat.le_of_ble_eq_true rfl⟩) hP hD hS hA [1, 2, 3, 4] rfl (by decide) (fun _ => rfl) (fun E5 ce6 a97 u3 H locs h4 hP hD hS h4a h4b h4c => ?_) (fun v2 u3 H locs h4 hP hD hS => ?_)
  · have h4q : q1.1 = xc E5 := by rw [← eq1, h4.1]
    have hP : va_P D vwCl [(a0, .inl (y 4, 1, .inr (.inl od))), (a1, .inr (4, [.ref a2, .ref a3, .ref a4, .ref a5, .ref a6])), (a3, soF a7 a8 r), (a7, soV y r), (a8, soW y r)] H := hP
    have hD : va_D A [(a0, .inl (y 4, 1, .inr (.inl od))), (a1, .inr (4, [.ref a2, .ref a3, .ref a4, .ref a5, .ref a6])), (a3, soF a7 a8 r), (a7, soV y r), (a8, soW y r)] := hD
    rcases xc_E h4.2 with rfl | rfl | rfl
    · rw [xc_IA] at h4q
      have hF := hF.trans (if_neg (show ¬ q1.1 = 0 by rw [h4q]; decide))
      refine vx_catch hown (tableOf []) ⟨0, 9, 12, 13⟩ (tableOf []) (htab.trans rfl) (fun z hz => nomatch hz) (by decide) (by decide) w_0 (hXE.1.1.1.use rfl) h4a h4b h4c ?_
      refine W.eq (g2 := F0 m 12 ls [.ref a97]) rfl ?_
      refine lv_astore_n (lv' := [(3, .ref a97), (0, .ref a1), (1, .int p1), (2, .ref a0)]) hx hb dL_setting_12 rfl hl (by decide) rfl (fun ls hl => ?_)
      refine lv_iconst (v := 1) hx hb dL_setting_13 (by decide) ?_
      refine W.widen (k := 2) (n := 12) (Nat.le_of_ble_eq_true rfl) (Nat.le_of_ble_eq_true rfl) ?_
      refine vx_ret ?_
      exact W.iret (v := 1) hx hb hr (fun t ht hW => ⟨⟨1, od, rfl, hF, ⟨by rw [ht]; exact hP, hD⟩⟩, hS.F ht⟩) hS.2.2 dL_setting_14
    · rw [xc_IS] at h4q
      have hc := cd_X5_setting r p1
      rw [eq1, h4q] at hc
      exact absurd hc (by decide)
    · rw [xc_IO] at h4q
      have hc := cd_X5_setting r p1
      rw [eq1, h4q] at hc
      exact absurd hc (by decide)
  · have h4q : q1.1 = 0 := by rw [← eq1, h4]
    obtain rfl : q1.2 = v2 := by rw [← eq1, h4]
    have hP : va_P D vwCl [(a0, .inl (y 4, 1, .inr (.inl od))), (a1, .inr (4, [.ref a2, .ref a3, .ref a4, .ref a5, .ref a6])), (a3, soF a7 a8 r), (a7, soV y r), (a8, soW y r)] H := hP
    have hD : va_D A [(a0, .inl (y 4, 1, .inr (.inl od))), (a1, .inr (4, [.ref a2, .ref a3, .ref a4, .ref a5, .ref a6])), (a3, soF a7 a8 r), (a7, soV y r), (a8, soW y r)] := hD
    have hF := hF.trans (if_pos h4q)
    refine lv_i2l (v := q1.2.toInt64) hx hb dL_setting_7 rfl ?_
    refine va_last hx hb hE.1 hP hD hS 0 4 rfl rfl (xin (by decide)) dL_setting_8 (fun H locs hP hD hS => ?_)
    have hP : va_P D vwCl [(a0, .inl (y 4, 1, .inr (.inl (vp_updL od ((0 : Int32).toNatClampNeg) q1.2.toInt64)))), (a1, .inr (4, [.ref a2, .ref a3, .ref a4, .ref a5, .ref a6])), (a3, soF a7 a8 r), (a7, soV y r), (a8, soW y r)] H := hP
    have hD : va_D A [(a0, .inl (y 4, 1, .inr (.inl (vp_updL od ((0 : Int32).toNatClampNeg) q1.2.toInt64)))), (a1, .inr (4, [.ref a2, .ref a3, .ref a4, .ref a5, .ref a6])), (a3, soF a7 a8 r), (a7, soV y r), (a8, soW y r)] := hD
    refine lv_goto (tgt := 15) hx hb dL_setting_9 (by decide) ?_
    refine lv_iconst (v := 0) hx hb dL_setting_15 (by decide) ?_
    refine W.widen (k := 2) (n := 12) (Nat.le_of_ble_eq_true rfl) (Nat.le_of_ble_eq_true rfl) ?_
    refine vx_ret ?_
    exact W.iret (v := 0) hx hb hr (fun t ht hW => ⟨⟨0, (vp_updL od ((0 : Int32).toNatClampNeg) q1.2.toInt64), rfl, hF, ⟨by rw [ht]; exact hP, hD⟩⟩, hS.F ht⟩) hS.2.2 dL_setting_16
