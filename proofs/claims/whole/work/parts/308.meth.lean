/-! M_cull -/
def M_cull_b57 (rec57 : Int32 → Int32 → Me → Option (Int32 × Me)) (v2 : Int32) (v3 : Int32) (M : Me) : Option (Int32 × Me) :=
  if (gF M 5) ≤ v3 then (some (v2, M)) else (gd (inb v3 24) (if (gI M 16 v3) = (0 : Int32) then (rec57 (v2 + (1 : Int32)) (v3 + (1 : Int32)) M) else (rec57 v2 (v3 + (1 : Int32)) M)))
def M_cull_L57 : Nat → Int32 → Int32 → Me → Option (Int32 × Me)
  | 0, _, _, _ => none
  | F + 1, v2, v3, M => M_cull_b57 (M_cull_L57 F) v2 v3 M
def M_cull_c36 (v1 : Int32) (s0 : Int32) (s1 : Int32) (M : Me) : Option (Int32 × Me) :=
  Option.bind (M_refused M s1 s0 (0 : Int32) (0 : Int32)) (fun r2 => if r2.1 = (0 : Int32) then (gd (inb v1 24) (M_cull_L57 64 (0 : Int32) (0 : Int32) (sZ r2.2 16 v1 (1 : Int32)))) else (some ((0 : Int32), r2.2)))
def M_cull_c14 (v1 : Int32) (s0 : Int32) (M : Me) : Option (Int32 × Me) :=
  Option.bind (M_is M v1) (fun r2 => if r2 = (0 : Int32) then (M_cull_c36 v1 (0 : Int32) s0 M) else (gd (inb v1 24) (if (gI M 16 v1) = (0 : Int32) then (M_cull_c36 v1 (0 : Int32) s0 M) else (M_cull_c36 v1 (1 : Int32) s0 M))))
def M_cull (M : Me) (v1 : Int32) : Option (Int32 × Me) :=
  Option.bind (M_is M v1) (fun r2 => if r2 = (0 : Int32) then (M_cull_c14 v1 (1 : Int32) M) else (M_cull_c14 v1 (0 : Int32) M))
def rm_M_cull : Room := { frames := 1, locals := 24, cells := 0, slots := 0 }
theorem q_M_cull_b57 {l : Launch} {D : va_G} {B : Nat} {ad : Nat → Nat} {r : Int32 × Me} (rec57 : Int32 → Int32 → Me → Option (Int32 × Me)) (hrec57 : ∀ (v2 : Int32) (v3 : Int32) (M : Me) , rec57 v2 v3 M = some r → ab_V (ab_km l D B ad y_M_cull rm_M_cull (.ok (some (.int r.1))) (lay r.2)) ad 57 [(0, .ref 3), (2, .int v2), (3, .int v3)] [] (lay M) 0 0) (v2 : Int32) (v3 : Int32) (M : Me) (hyp : M_cull_b57 rec57 v2 v3 M = some r) : ab_V (ab_km l D B ad y_M_cull rm_M_cull (.ok (some (.int r.1))) (lay r.2)) ad 57 [(0, .ref 3), (2, .int v2), (3, .int v3)] [] (lay M) 0 0 := by
  unfold M_cull_b57 at hyp
  refine ab_iload_n 58 d_M_cull_57 rfl ?_
  refine ab_aload_n 59 d_M_cull_58 rfl ?_
  refine ab_get 62 d_M_cull_59 fd_25 rfl rfl ?_
  refine ab_ic_ge 88 65 d_M_cull_62 (fun z1 => ?_) (fun z1 => ?_)
  · replace hyp := ab_pos z1 hyp
    refine ab_iload_n 89 d_M_cull_88 rfl ?_
    cases hyp
    exact ab_ireturn d_M_cull_89 rfl rfl rfl (Nat.le_of_ble_eq_true rfl) (Nat.le_of_ble_eq_true rfl)
  · replace hyp := ab_neg z1 hyp
    refine ab_aload_n 66 d_M_cull_65 rfl ?_
    refine ab_get 69 d_M_cull_66 fd_33 rfl rfl ?_
    refine ab_iload_n 70 d_M_cull_69 rfl ?_
    obtain ⟨g2, hyp⟩ := ab_gd hyp
    refine ab_zld 16 24 71 d_M_cull_70 rfl g2 ?_
    refine ab_if_eq 78 74 d_M_cull_71 (fun z3 => ?_) (fun z3 => ?_)
    · replace hyp := ab_pos z3 hyp
      refine ab_iload_n 79 d_M_cull_78 rfl ?_
      refine ab_iconst 80 d_M_cull_79 (1 : Int32) (by decide) ?_
      refine ab_iadd 81 d_M_cull_80 ?_
      refine ab_istore_n 82 [(2, _), (0, _), (3, _)] d_M_cull_81 rfl ?_
      refine ab_iinc 85 [(3, _), (2, _), (0, _)] d_M_cull_82 (1 : Int32) (by decide) rfl rfl ?_
      refine ab_goto 57 d_M_cull_85 ?_
      refine ab_pick [2, 1, 0] [(0, _), (2, _), (3, _)] rfl ?_
      exact hrec57 (v2 + (1 : Int32)) (v3 + (1 : Int32)) M hyp
    · replace hyp := ab_neg z3 hyp
      refine ab_iload_n 75 d_M_cull_74 rfl ?_
      refine ab_goto 81 d_M_cull_75 ?_
      refine ab_istore_n 82 [(2, _), (0, _), (3, _)] d_M_cull_81 rfl ?_
      refine ab_iinc 85 [(3, _), (2, _), (0, _)] d_M_cull_82 (1 : Int32) (by decide) rfl rfl ?_
      refine ab_goto 57 d_M_cull_85 ?_
      refine ab_pick [2, 1, 0] [(0, _), (2, _), (3, _)] rfl ?_
      exact hrec57 v2 (v3 + (1 : Int32)) M hyp
theorem q_M_cull_L57 {l : Launch} {D : va_G} {B : Nat} {ad : Nat → Nat} {r : Int32 × Me} : ∀ (F : Nat) (v2 : Int32) (v3 : Int32) (M : Me) , M_cull_L57 F v2 v3 M = some r → ab_V (ab_km l D B ad y_M_cull rm_M_cull (.ok (some (.int r.1))) (lay r.2)) ad 57 [(0, .ref 3), (2, .int v2), (3, .int v3)] [] (lay M) 0 0 := by
  intro F
  induction F with
  | zero =>
    intro v2 v3 M hyp
    have h2 : (none : Option (Int32 × Me)) = some r := hyp
    cases h2
  | succ F ih =>
    intro v2 v3 M hyp
    exact q_M_cull_b57 (M_cull_L57 F) ih v2 v3 M hyp
theorem q_M_cull_c36 {l : Launch} {D : va_G} {B : Nat} {ad : Nat → Nat} {r : Int32 × Me} (v1 : Int32) (s0 : Int32) (s1 : Int32) (M : Me) (hyp : M_cull_c36 v1 s0 s1 M = some r) : ab_V (ab_km l D B ad y_M_cull rm_M_cull (.ok (some (.int r.1))) (lay r.2)) ad 36 [(0, .ref 3), (1, .int v1)] [.int s0, .int s1, .ref 3] (lay M) 0 0 := by
  unfold M_cull_c36 at hyp
  refine ab_iconst 37 d_M_cull_36 (0 : Int32) (by decide) ?_
  refine ab_iconst 38 d_M_cull_37 (0 : Int32) (by decide) ?_
  obtain ⟨r2, hc1, hyp⟩ := ab_bind hyp
  refine ab_callV (h' := lay r2.2) 41 0 0 [] [.int r2.1] d_M_cull_38 ok_M_refused lk_55 (c_M_refused hc1) rfl rfl ?_
  refine ab_if_eq 46 44 d_M_cull_41 (fun z3 => ?_) (fun z3 => ?_)
  · replace hyp := ab_pos z3 hyp
    refine ab_aload_n 47 d_M_cull_46 rfl ?_
    refine ab_get 50 d_M_cull_47 fd_33 rfl rfl ?_
    refine ab_iload_n 51 d_M_cull_50 rfl ?_
    refine ab_iconst 52 d_M_cull_51 (1 : Int32) (by decide) ?_
    obtain ⟨g4, hyp⟩ := ab_gd hyp
    refine ab_zst 16 24 53 d_M_cull_52 rfl g4 lay_Z16 ?_
    refine ab_iconst 54 d_M_cull_53 (0 : Int32) (by decide) ?_
    refine ab_istore_n 55 [(2, _), (0, _), (1, _)] d_M_cull_54 rfl ?_
    refine ab_iconst 56 d_M_cull_55 (0 : Int32) (by decide) ?_
    refine ab_istore_n 57 [(3, _), (2, _), (0, _), (1, _)] d_M_cull_56 rfl ?_
    refine ab_pick [2, 1, 0] [(0, _), (2, _), (3, _)] rfl ?_
    exact q_M_cull_L57 64 (0 : Int32) (0 : Int32) (sZ r2.2 16 v1 (1 : Int32)) hyp
  · replace hyp := ab_neg z3 hyp
    refine ab_iconst 45 d_M_cull_44 (0 : Int32) (by decide) ?_
    cases hyp
    exact ab_ireturn d_M_cull_45 rfl rfl rfl (Nat.le_of_ble_eq_true rfl) (Nat.le_of_ble_eq_true rfl)
theorem q_M_cull_c14 {l : Launch} {D : va_G} {B : Nat} {ad : Nat → Nat} {r : Int32 × Me} (v1 : Int32) (s0 : Int32) (M : Me) (hyp : M_cull_c14 v1 s0 M = some r) : ab_V (ab_km l D B ad y_M_cull rm_M_cull (.ok (some (.int r.1))) (lay r.2)) ad 14 [(0, .ref 3), (1, .int v1)] [.int s0, .ref 3] (lay M) 0 0 := by
  unfold M_cull_c14 at hyp
  refine ab_aload_n 15 d_M_cull_14 rfl ?_
  refine ab_iload_n 16 d_M_cull_15 rfl ?_
  obtain ⟨r2, hc1, hyp⟩ := ab_bind hyp
  refine ab_callV (h' := lay M) 19 0 0 [.int s0, .ref 3] [.int r2, .int s0, .ref 3] d_M_cull_16 ok_M_is lk_51 (c_M_is hc1) rfl rfl ?_
  refine ab_if_eq 35 22 d_M_cull_19 (fun z3 => ?_) (fun z3 => ?_)
  · replace hyp := ab_pos z3 hyp
    refine ab_iconst 36 d_M_cull_35 (0 : Int32) (by decide) ?_
    refine ab_pick [0, 1] [(0, _), (1, _)] rfl ?_
    exact q_M_cull_c36 v1 (0 : Int32) s0 M hyp
  · replace hyp := ab_neg z3 hyp
    refine ab_aload_n 23 d_M_cull_22 rfl ?_
    refine ab_get 26 d_M_cull_23 fd_33 rfl rfl ?_
    refine ab_iload_n 27 d_M_cull_26 rfl ?_
    obtain ⟨g4, hyp⟩ := ab_gd hyp
    refine ab_zld 16 24 28 d_M_cull_27 rfl g4 ?_
    refine ab_if_eq 35 31 d_M_cull_28 (fun z5 => ?_) (fun z5 => ?_)
    · replace hyp := ab_pos z5 hyp
      refine ab_iconst 36 d_M_cull_35 (0 : Int32) (by decide) ?_
      refine ab_pick [0, 1] [(0, _), (1, _)] rfl ?_
      exact q_M_cull_c36 v1 (0 : Int32) s0 M hyp
    · replace hyp := ab_neg z5 hyp
      refine ab_iconst 32 d_M_cull_31 (1 : Int32) (by decide) ?_
      refine ab_goto 36 d_M_cull_32 ?_
      refine ab_pick [0, 1] [(0, _), (1, _)] rfl ?_
      exact q_M_cull_c36 v1 (1 : Int32) s0 M hyp
theorem c_M_cull {M : Me} {v1 : Int32} {r : Int32 × Me} (hyp : M_cull M v1 = some r) : ab_Met y_M_cull rm_M_cull [.ref 3, .int v1] (lay M) (.ok (some (.int r.1))) (lay r.2) := by
  refine ab_start rfl rfl (Nat.le_of_ble_eq_true rfl) (fun l D B ad => ?_)
  show ab_V _ ad 0 [(0, .ref 3), (1, .int v1)] [] _ 0 0
  unfold M_cull at hyp
  refine ab_aload_n 1 d_M_cull_0 rfl ?_
  refine ab_aload_n 2 d_M_cull_1 rfl ?_
  refine ab_iload_n 3 d_M_cull_2 rfl ?_
  obtain ⟨r2, hc1, hyp⟩ := ab_bind hyp
  refine ab_callV (h' := lay M) 6 0 0 [.ref 3] [.int r2, .ref 3] d_M_cull_3 ok_M_is lk_51 (c_M_is hc1) rfl rfl ?_
  refine ab_if_ne 13 9 d_M_cull_6 (fun z3 => ?_) (fun z3 => ?_)
  · replace hyp := ab_neg z3 hyp
    refine ab_iconst 14 d_M_cull_13 (0 : Int32) (by decide) ?_
    refine ab_pick [0, 1] [(0, _), (1, _)] rfl ?_
    exact q_M_cull_c14 v1 (0 : Int32) M hyp
  · replace hyp := ab_pos z3 hyp
    refine ab_iconst 10 d_M_cull_9 (1 : Int32) (by decide) ?_
    refine ab_goto 14 d_M_cull_10 ?_
    refine ab_pick [0, 1] [(0, _), (1, _)] rfl ?_
    exact q_M_cull_c14 v1 (1 : Int32) M hyp
/-! M_depthOf -/
def M_depthOf_c60 (rec2 : Int32 → Int32 → Me → Option (Int32 × Me)) (v1 : Int32) (v2 : Int32) (v3 : Int32) (s0 : Int32) (M : Me) : Option (Int32 × Me) :=
  if v3 ≤ s0 then (gd (inb v2 24) (rec2 v1 (v2 + (1 : Int32)) (sI M 17 v2 s0))) else (gd (inb v2 24) (rec2 v1 (v2 + (1 : Int32)) (sI M 17 v2 v3)))
def M_depthOf_c33 (rec2 : Int32 → Int32 → Me → Option (Int32 × Me)) (v1 : Int32) (v2 : Int32) (s0 : Int32) (M : Me) : Option (Int32 × Me) :=
  gd (inb v2 24) (if (0 : Int32) ≤ (gI M 13 v2) then (gd (inb v2 24) (gd (inb (gI M 13 v2) 24) (M_depthOf_c60 rec2 v1 v2 s0 ((gI M 17 (gI M 13 v2)) + (1 : Int32)) M))) else (M_depthOf_c60 rec2 v1 v2 s0 (0 : Int32) M))
def M_depthOf_b2 (rec2 : Int32 → Int32 → Me → Option (Int32 × Me)) (v1 : Int32) (v2 : Int32) (M : Me) : Option (Int32 × Me) :=
  if v1 < v2 then (gd (inb v1 24) (some ((gI M 17 v1), M))) else (gd (inb v2 24) (if (0 : Int32) ≤ (gI M 12 v2) then (gd (inb v2 24) (gd (inb (gI M 12 v2) 24) (M_depthOf_c33 rec2 v1 v2 ((gI M 17 (gI M 12 v2)) + (1 : Int32)) M))) else (M_depthOf_c33 rec2 v1 v2 (0 : Int32) M)))
def M_depthOf_L2 : Nat → Int32 → Int32 → Me → Option (Int32 × Me)
  | 0, _, _, _ => none
  | F + 1, v1, v2, M => M_depthOf_b2 (M_depthOf_L2 F) v1 v2 M
def M_depthOf (M : Me) (v1 : Int32) : Option (Int32 × Me) :=
  M_depthOf_L2 64 v1 (0 : Int32) M
def rm_M_depthOf : Room := { frames := 0, locals := 0, cells := 0, slots := 0 }
theorem q_M_depthOf_c60 {l : Launch} {D : va_G} {B : Nat} {ad : Nat → Nat} {r : Int32 × Me} (rec2 : Int32 → Int32 → Me → Option (Int32 × Me)) (hrec2 : ∀ (v1 : Int32) (v2 : Int32) (M : Me) , rec2 v1 v2 M = some r → ab_V (ab_km l D B ad y_M_depthOf rm_M_depthOf (.ok (some (.int r.1))) (lay r.2)) ad 2 [(0, .ref 3), (1, .int v1), (2, .int v2)] [] (lay M) 0 0) (v1 : Int32) (v2 : Int32) (v3 : Int32) (s0 : Int32) (M : Me) (hyp : M_depthOf_c60 rec2 v1 v2 v3 s0 M = some r) : ab_V (ab_km l D B ad y_M_depthOf rm_M_depthOf (.ok (some (.int r.1))) (lay r.2)) ad 60 [(0, .ref 3), (1, .int v1), (2, .int v2), (3, .int v3)] [.int s0] (lay M) 0 0 := by
  unfold M_depthOf_c60 at hyp
  refine ab_istore 62 [(4, _), (0, _), (1, _), (2, _), (3, _)] d_M_depthOf_60 rfl ?_
  refine ab_aload_n 63 d_M_depthOf_62 rfl ?_
  refine ab_get 66 d_M_depthOf_63 fd_34 rfl rfl ?_
  refine ab_iload_n 67 d_M_depthOf_66 rfl ?_
  refine ab_iload_n 68 d_M_depthOf_67 rfl ?_
  refine ab_iload 70 d_M_depthOf_68 rfl ?_
  refine ab_ic_le 77 73 d_M_depthOf_70 (fun z1 => ?_) (fun z1 => ?_)
  · replace hyp := ab_pos z1 hyp
    refine ab_iload 79 d_M_depthOf_77 rfl ?_
    obtain ⟨g2, hyp⟩ := ab_gd hyp
    refine ab_ist 17 24 80 d_M_depthOf_79 rfl g2 lay_I17 ?_
    refine ab_iinc 83 [(2, _), (4, _), (0, _), (1, _), (3, _)] d_M_depthOf_80 (1 : Int32) (by decide) rfl rfl ?_
    refine ab_goto 2 d_M_depthOf_83 ?_
    refine ab_pick [2, 3, 0] [(0, _), (1, _), (2, _)] rfl ?_
    exact hrec2 v1 (v2 + (1 : Int32)) (sI M 17 v2 s0) hyp
  · replace hyp := ab_neg z1 hyp
    refine ab_iload_n 74 d_M_depthOf_73 rfl ?_
    refine ab_goto 79 d_M_depthOf_74 ?_
    obtain ⟨g3, hyp⟩ := ab_gd hyp
    refine ab_ist 17 24 80 d_M_depthOf_79 rfl g3 lay_I17 ?_
    refine ab_iinc 83 [(2, _), (4, _), (0, _), (1, _), (3, _)] d_M_depthOf_80 (1 : Int32) (by decide) rfl rfl ?_
    refine ab_goto 2 d_M_depthOf_83 ?_
    refine ab_pick [2, 3, 0] [(0, _), (1, _), (2, _)] rfl ?_
    exact hrec2 v1 (v2 + (1 : Int32)) (sI M 17 v2 v3) hyp
theorem q_M_depthOf_c33 {l : Launch} {D : va_G} {B : Nat} {ad : Nat → Nat} {r : Int32 × Me} (rec2 : Int32 → Int32 → Me → Option (Int32 × Me)) (hrec2 : ∀ (v1 : Int32) (v2 : Int32) (M : Me) , rec2 v1 v2 M = some r → ab_V (ab_km l D B ad y_M_depthOf rm_M_depthOf (.ok (some (.int r.1))) (lay r.2)) ad 2 [(0, .ref 3), (1, .int v1), (2, .int v2)] [] (lay M) 0 0) (v1 : Int32) (v2 : Int32) (s0 : Int32) (M : Me) (hyp : M_depthOf_c33 rec2 v1 v2 s0 M = some r) : ab_V (ab_km l D B ad y_M_depthOf rm_M_depthOf (.ok (some (.int r.1))) (lay r.2)) ad 33 [(0, .ref 3), (1, .int v1), (2, .int v2)] [.int s0] (lay M) 0 0 := by
  unfold M_depthOf_c33 at hyp
  refine ab_istore_n 34 [(3, _), (0, _), (1, _), (2, _)] d_M_depthOf_33 rfl ?_
  refine ab_aload_n 35 d_M_depthOf_34 rfl ?_
  refine ab_get 38 d_M_depthOf_35 fd_31 rfl rfl ?_
  refine ab_iload_n 39 d_M_depthOf_38 rfl ?_
  obtain ⟨g1, hyp⟩ := ab_gd hyp
  refine ab_ild 13 24 40 d_M_depthOf_39 rfl g1 ?_
  refine ab_if_ge 47 43 d_M_depthOf_40 (fun z2 => ?_) (fun z2 => ?_)
  · replace hyp := ab_pos z2 hyp
    refine ab_aload_n 48 d_M_depthOf_47 rfl ?_
    refine ab_get 51 d_M_depthOf_48 fd_34 rfl rfl ?_
    refine ab_aload_n 52 d_M_depthOf_51 rfl ?_
    refine ab_get 55 d_M_depthOf_52 fd_31 rfl rfl ?_
    refine ab_iload_n 56 d_M_depthOf_55 rfl ?_
    obtain ⟨g3, hyp⟩ := ab_gd hyp
    refine ab_ild 13 24 57 d_M_depthOf_56 rfl g3 ?_
    obtain ⟨g4, hyp⟩ := ab_gd hyp
    refine ab_ild 17 24 58 d_M_depthOf_57 rfl g4 ?_
    refine ab_iconst 59 d_M_depthOf_58 (1 : Int32) (by decide) ?_
    refine ab_iadd 60 d_M_depthOf_59 ?_
    refine ab_pick [1, 2, 3, 0] [(0, _), (1, _), (2, _), (3, _)] rfl ?_
    exact q_M_depthOf_c60 rec2 hrec2 v1 v2 s0 ((gI M 17 (gI M 13 v2)) + (1 : Int32)) M hyp
  · replace hyp := ab_neg z2 hyp
    refine ab_iconst 44 d_M_depthOf_43 (0 : Int32) (by decide) ?_
    refine ab_goto 60 d_M_depthOf_44 ?_
    refine ab_pick [1, 2, 3, 0] [(0, _), (1, _), (2, _), (3, _)] rfl ?_
    exact q_M_depthOf_c60 rec2 hrec2 v1 v2 s0 (0 : Int32) M hyp
theorem q_M_depthOf_b2 {l : Launch} {D : va_G} {B : Nat} {ad : Nat → Nat} {r : Int32 × Me} (rec2 : Int32 → Int32 → Me → Option (Int32 × Me)) (hrec2 : ∀ (v1 : Int32) (v2 : Int32) (M : Me) , rec2 v1 v2 M = some r → ab_V (ab_km l D B ad y_M_depthOf rm_M_depthOf (.ok (some (.int r.1))) (lay r.2)) ad 2 [(0, .ref 3), (1, .int v1), (2, .int v2)] [] (lay M) 0 0) (v1 : Int32) (v2 : Int32) (M : Me) (hyp : M_depthOf_b2 rec2 v1 v2 M = some r) : ab_V (ab_km l D B ad y_M_depthOf rm_M_depthOf (.ok (some (.int r.1))) (lay r.2)) ad 2 [(0, .ref 3), (1, .int v1), (2, .int v2)] [] (lay M) 0 0 := by
  unfold M_depthOf_b2 at hyp
  refine ab_iload_n 3 d_M_depthOf_2 rfl ?_
  refine ab_iload_n 4 d_M_depthOf_3 rfl ?_
  refine ab_ic_gt 86 7 d_M_depthOf_4 (fun z1 => ?_) (fun z1 => ?_)
  · replace hyp := ab_pos z1 hyp
    refine ab_aload_n 87 d_M_depthOf_86 rfl ?_
    refine ab_get 90 d_M_depthOf_87 fd_34 rfl rfl ?_
    refine ab_iload_n 91 d_M_depthOf_90 rfl ?_
    obtain ⟨g2, hyp⟩ := ab_gd hyp
    refine ab_ild 17 24 92 d_M_depthOf_91 rfl g2 ?_
    cases hyp
    exact ab_ireturn d_M_depthOf_92 rfl rfl rfl (Nat.le_of_ble_eq_true rfl) (Nat.le_of_ble_eq_true rfl)
  · replace hyp := ab_neg z1 hyp
    refine ab_aload_n 8 d_M_depthOf_7 rfl ?_
    refine ab_get 11 d_M_depthOf_8 fd_30 rfl rfl ?_
    refine ab_iload_n 12 d_M_depthOf_11 rfl ?_
    obtain ⟨g3, hyp⟩ := ab_gd hyp
    refine ab_ild 12 24 13 d_M_depthOf_12 rfl g3 ?_
    refine ab_if_ge 20 16 d_M_depthOf_13 (fun z4 => ?_) (fun z4 => ?_)
    · replace hyp := ab_pos z4 hyp
      refine ab_aload_n 21 d_M_depthOf_20 rfl ?_
      refine ab_get 24 d_M_depthOf_21 fd_34 rfl rfl ?_
      refine ab_aload_n 25 d_M_depthOf_24 rfl ?_
      refine ab_get 28 d_M_depthOf_25 fd_30 rfl rfl ?_
      refine ab_iload_n 29 d_M_depthOf_28 rfl ?_
      obtain ⟨g5, hyp⟩ := ab_gd hyp
      refine ab_ild 12 24 30 d_M_depthOf_29 rfl g5 ?_
      obtain ⟨g6, hyp⟩ := ab_gd hyp
      refine ab_ild 17 24 31 d_M_depthOf_30 rfl g6 ?_
      refine ab_iconst 32 d_M_depthOf_31 (1 : Int32) (by decide) ?_
      refine ab_iadd 33 d_M_depthOf_32 ?_
      refine ab_pick [0, 1, 2] [(0, _), (1, _), (2, _)] rfl ?_
      exact q_M_depthOf_c33 rec2 hrec2 v1 v2 ((gI M 17 (gI M 12 v2)) + (1 : Int32)) M hyp
    · replace hyp := ab_neg z4 hyp
      refine ab_iconst 17 d_M_depthOf_16 (0 : Int32) (by decide) ?_
      refine ab_goto 33 d_M_depthOf_17 ?_
      refine ab_pick [0, 1, 2] [(0, _), (1, _), (2, _)] rfl ?_
      exact q_M_depthOf_c33 rec2 hrec2 v1 v2 (0 : Int32) M hyp
theorem q_M_depthOf_L2 {l : Launch} {D : va_G} {B : Nat} {ad : Nat → Nat} {r : Int32 × Me} : ∀ (F : Nat) (v1 : Int32) (v2 : Int32) (M : Me) , M_depthOf_L2 F v1 v2 M = some r → ab_V (ab_km l D B ad y_M_depthOf rm_M_depthOf (.ok (some (.int r.1))) (lay r.2)) ad 2 [(0, .ref 3), (1, .int v1), (2, .int v2)] [] (lay M) 0 0 := by
  intro F
  induction F with
  | zero =>
    intro v1 v2 M hyp
    have h2 : (none : Option (Int32 × Me)) = some r := hyp
    cases h2
  | succ F ih =>
    intro v1 v2 M hyp
    exact q_M_depthOf_b2 (M_depthOf_L2 F) ih v1 v2 M hyp
theorem c_M_depthOf {M : Me} {v1 : Int32} {r : Int32 × Me} (hyp : M_depthOf M v1 = some r) : ab_Met y_M_depthOf rm_M_depthOf [.ref 3, .int v1] (lay M) (.ok (some (.int r.1))) (lay r.2) := by
  refine ab_start rfl rfl (Nat.le_of_ble_eq_true rfl) (fun l D B ad => ?_)
  show ab_V _ ad 0 [(0, .ref 3), (1, .int v1)] [] _ 0 0
  unfold M_depthOf at hyp
  refine ab_iconst 1 d_M_depthOf_0 (0 : Int32) (by decide) ?_
  refine ab_istore_n 2 [(2, _), (0, _), (1, _)] d_M_depthOf_1 rfl ?_
  refine ab_pick [1, 2, 0] [(0, _), (1, _), (2, _)] rfl ?_
  exact q_M_depthOf_L2 64 v1 (0 : Int32) M hyp
/-! M_of -/
def M_of_c28 (v1 : Int32) (v2 : Int32) (s0 : Int32) (s1 : Int32) (M : Me) : Option (Int32 × Me) :=
  Option.bind (M_refused M s1 s0 (0 : Int32) (0 : Int32)) (fun r2 => if r2.1 = (0 : Int32) then (if v2 = (0 : Int32) then (gd (inb v1 24) (some ((gI r2.2 12 v1), r2.2))) else (if v2 = (1 : Int32) then (gd (inb v1 24) (some ((gI r2.2 13 v1), r2.2))) else (if v2 = (2 : Int32) then (gd (inb v1 24) (some ((gI r2.2 14 v1), r2.2))) else (if v2 = (3 : Int32) then (gd (inb v1 24) (some ((gI r2.2 15 v1), r2.2))) else (if v2 = (4 : Int32) then (gd (inb v1 24) (if (gI r2.2 16 v1) = (0 : Int32) then (some ((1 : Int32), r2.2)) else (some ((0 : Int32), r2.2)))) else (Option.bind (M_depthOf r2.2 v1) (fun r11 => some (r11.1, r11.2)))))))) else (some ((0 : Int32), r2.2)))
def M_of_c14 (v1 : Int32) (v2 : Int32) (s0 : Int32) (M : Me) : Option (Int32 × Me) :=
  if v2 < (0 : Int32) then (M_of_c28 v1 v2 (1 : Int32) s0 M) else (if v2 ≤ (5 : Int32) then (M_of_c28 v1 v2 (0 : Int32) s0 M) else (M_of_c28 v1 v2 (1 : Int32) s0 M))
def M_of (M : Me) (v1 : Int32) (v2 : Int32) : Option (Int32 × Me) :=
  Option.bind (M_is M v1) (fun r2 => if r2 = (0 : Int32) then (M_of_c14 v1 v2 (1 : Int32) M) else (M_of_c14 v1 v2 (0 : Int32) M))
def rm_M_of : Room := { frames := 1, locals := 24, cells := 0, slots := 0 }
theorem q_M_of_c28 {l : Launch} {D : va_G} {B : Nat} {ad : Nat → Nat} {r : Int32 × Me} (v1 : Int32) (v2 : Int32) (s0 : Int32) (s1 : Int32) (M : Me) (hyp : M_of_c28 v1 v2 s0 s1 M = some r) : ab_V (ab_km l D B ad y_M_of rm_M_of (.ok (some (.int r.1))) (lay r.2)) ad 28 [(0, .ref 3), (1, .int v1), (2, .int v2)] [.int s0, .int s1, .ref 3] (lay M) 0 0 := by
  unfold M_of_c28 at hyp
  refine ab_iconst 29 d_M_of_28 (0 : Int32) (by decide) ?_
  refine ab_iconst 30 d_M_of_29 (0 : Int32) (by decide) ?_
  obtain ⟨r2, hc1, hyp⟩ := ab_bind hyp
  refine ab_callV (h' := lay r2.2) 33 0 0 [] [.int r2.1] d_M_of_30 ok_M_refused lk_55 (c_M_refused hc1) rfl rfl ?_
  refine ab_if_eq 38 36 d_M_of_33 (fun z3 => ?_) (fun z3 => ?_)
  · replace hyp := ab_pos z3 hyp
    refine ab_iload_n 39 d_M_of_38 rfl ?_
    by_cases zM_of0 : v2 = (0 : Int32)
    · replace hyp := ab_pos zM_of0 hyp
      refine ab_tabIn 72 d_M_of_39 (by rw [zM_of0]; decide) (by rw [zM_of0]; decide) (by rw [zM_of0]; rfl) ?_
      refine ab_aload_n 73 d_M_of_72 rfl ?_
      refine ab_get 76 d_M_of_73 fd_30 rfl rfl ?_
      refine ab_iload_n 77 d_M_of_76 rfl ?_
      obtain ⟨g4, hyp⟩ := ab_gd hyp
      refine ab_ild 12 24 78 d_M_of_77 rfl g4 ?_
      cases hyp
      exact ab_ireturn d_M_of_78 rfl rfl rfl (Nat.le_of_ble_eq_true rfl) (Nat.le_of_ble_eq_true rfl)
    · replace hyp := ab_neg zM_of0 hyp
      by_cases zM_of1 : v2 = (1 : Int32)
      · replace hyp := ab_pos zM_of1 hyp
        refine ab_tabIn 79 d_M_of_39 (by rw [zM_of1]; decide) (by rw [zM_of1]; decide) (by rw [zM_of1]; rfl) ?_
        refine ab_aload_n 80 d_M_of_79 rfl ?_
        refine ab_get 83 d_M_of_80 fd_31 rfl rfl ?_
        refine ab_iload_n 84 d_M_of_83 rfl ?_
        obtain ⟨g5, hyp⟩ := ab_gd hyp
        refine ab_ild 13 24 85 d_M_of_84 rfl g5 ?_
        cases hyp
        exact ab_ireturn d_M_of_85 rfl rfl rfl (Nat.le_of_ble_eq_true rfl) (Nat.le_of_ble_eq_true rfl)
      · replace hyp := ab_neg zM_of1 hyp
        by_cases zM_of2 : v2 = (2 : Int32)
        · replace hyp := ab_pos zM_of2 hyp
          refine ab_tabIn 86 d_M_of_39 (by rw [zM_of2]; decide) (by rw [zM_of2]; decide) (by rw [zM_of2]; rfl) ?_
          refine ab_aload_n 87 d_M_of_86 rfl ?_
          refine ab_get 90 d_M_of_87 fd_26 rfl rfl ?_
          refine ab_iload_n 91 d_M_of_90 rfl ?_
          obtain ⟨g6, hyp⟩ := ab_gd hyp
          refine ab_ild 14 24 92 d_M_of_91 rfl g6 ?_
          cases hyp
          exact ab_ireturn d_M_of_92 rfl rfl rfl (Nat.le_of_ble_eq_true rfl) (Nat.le_of_ble_eq_true rfl)
        · replace hyp := ab_neg zM_of2 hyp
          by_cases zM_of3 : v2 = (3 : Int32)
          · replace hyp := ab_pos zM_of3 hyp
            refine ab_tabIn 93 d_M_of_39 (by rw [zM_of3]; decide) (by rw [zM_of3]; decide) (by rw [zM_of3]; rfl) ?_
            refine ab_aload_n 94 d_M_of_93 rfl ?_
            refine ab_get 97 d_M_of_94 fd_27 rfl rfl ?_
            refine ab_iload_n 98 d_M_of_97 rfl ?_
            obtain ⟨g7, hyp⟩ := ab_gd hyp
            refine ab_ild 15 24 99 d_M_of_98 rfl g7 ?_
            cases hyp
            exact ab_ireturn d_M_of_99 rfl rfl rfl (Nat.le_of_ble_eq_true rfl) (Nat.le_of_ble_eq_true rfl)
          · replace hyp := ab_neg zM_of3 hyp
            by_cases zM_of4 : v2 = (4 : Int32)
            · replace hyp := ab_pos zM_of4 hyp
              refine ab_tabIn 100 d_M_of_39 (by rw [zM_of4]; decide) (by rw [zM_of4]; decide) (by rw [zM_of4]; rfl) ?_
              refine ab_aload_n 101 d_M_of_100 rfl ?_
              refine ab_get 104 d_M_of_101 fd_33 rfl rfl ?_
              refine ab_iload_n 105 d_M_of_104 rfl ?_
              obtain ⟨g8, hyp⟩ := ab_gd hyp
              refine ab_zld 16 24 106 d_M_of_105 rfl g8 ?_
              refine ab_if_eq 113 109 d_M_of_106 (fun z9 => ?_) (fun z9 => ?_)
              · replace hyp := ab_pos z9 hyp
                refine ab_iconst 114 d_M_of_113 (1 : Int32) (by decide) ?_
                cases hyp
                exact ab_ireturn d_M_of_114 rfl rfl rfl (Nat.le_of_ble_eq_true rfl) (Nat.le_of_ble_eq_true rfl)
              · replace hyp := ab_neg z9 hyp
                refine ab_iconst 110 d_M_of_109 (0 : Int32) (by decide) ?_
                refine ab_goto 114 d_M_of_110 ?_
                cases hyp
                exact ab_ireturn d_M_of_114 rfl rfl rfl (Nat.le_of_ble_eq_true rfl) (Nat.le_of_ble_eq_true rfl)
            · replace hyp := ab_neg zM_of4 hyp
              refine ab_tabOut 115 d_M_of_39 (ab_sw5 zM_of0 zM_of1 zM_of2 zM_of3 zM_of4) ?_
              refine ab_aload_n 116 d_M_of_115 rfl ?_
              refine ab_iload_n 117 d_M_of_116 rfl ?_
              obtain ⟨r11, hc10, hyp⟩ := ab_bind hyp
              refine ab_callV (h' := lay r11.2) 120 0 0 [] [.int r11.1] d_M_of_117 ok_M_depthOf lk_57 (c_M_depthOf hc10) rfl rfl ?_
              cases hyp
              exact ab_ireturn d_M_of_120 rfl rfl rfl (Nat.le_of_ble_eq_true rfl) (Nat.le_of_ble_eq_true rfl)
  · replace hyp := ab_neg z3 hyp
    refine ab_iconst 37 d_M_of_36 (0 : Int32) (by decide) ?_
    cases hyp
    exact ab_ireturn d_M_of_37 rfl rfl rfl (Nat.le_of_ble_eq_true rfl) (Nat.le_of_ble_eq_true rfl)
theorem q_M_of_c14 {l : Launch} {D : va_G} {B : Nat} {ad : Nat → Nat} {r : Int32 × Me} (v1 : Int32) (v2 : Int32) (s0 : Int32) (M : Me) (hyp : M_of_c14 v1 v2 s0 M = some r) : ab_V (ab_km l D B ad y_M_of rm_M_of (.ok (some (.int r.1))) (lay r.2)) ad 14 [(0, .ref 3), (1, .int v1), (2, .int v2)] [.int s0, .ref 3] (lay M) 0 0 := by
  unfold M_of_c14 at hyp
  refine ab_iload_n 15 d_M_of_14 rfl ?_
  refine ab_if_lt 23 18 d_M_of_15 (fun z1 => ?_) (fun z1 => ?_)
  · replace hyp := ab_pos z1 hyp
    refine ab_iconst 24 d_M_of_23 (1 : Int32) (by decide) ?_
    refine ab_goto 28 d_M_of_24 ?_
    refine ab_pick [0, 1, 2] [(0, _), (1, _), (2, _)] rfl ?_
    exact q_M_of_c28 v1 v2 (1 : Int32) s0 M hyp
  · replace hyp := ab_neg z1 hyp
    refine ab_iload_n 19 d_M_of_18 rfl ?_
    refine ab_iconst 20 d_M_of_19 (5 : Int32) (by decide) ?_
    refine ab_ic_le 27 23 d_M_of_20 (fun z2 => ?_) (fun z2 => ?_)
    · replace hyp := ab_pos z2 hyp
      refine ab_iconst 28 d_M_of_27 (0 : Int32) (by decide) ?_
      refine ab_pick [0, 1, 2] [(0, _), (1, _), (2, _)] rfl ?_
      exact q_M_of_c28 v1 v2 (0 : Int32) s0 M hyp
    · replace hyp := ab_neg z2 hyp
      refine ab_iconst 24 d_M_of_23 (1 : Int32) (by decide) ?_
      refine ab_goto 28 d_M_of_24 ?_
      refine ab_pick [0, 1, 2] [(0, _), (1, _), (2, _)] rfl ?_
      exact q_M_of_c28 v1 v2 (1 : Int32) s0 M hyp
theorem c_M_of {M : Me} {v1 : Int32} {v2 : Int32} {r : Int32 × Me} (hyp : M_of M v1 v2 = some r) : ab_Met y_M_of rm_M_of [.ref 3, .int v1, .int v2] (lay M) (.ok (some (.int r.1))) (lay r.2) := by
  refine ab_start rfl rfl (Nat.le_of_ble_eq_true rfl) (fun l D B ad => ?_)
  show ab_V _ ad 0 [(0, .ref 3), (1, .int v1), (2, .int v2)] [] _ 0 0
  unfold M_of at hyp
  refine ab_aload_n 1 d_M_of_0 rfl ?_
  refine ab_aload_n 2 d_M_of_1 rfl ?_
  refine ab_iload_n 3 d_M_of_2 rfl ?_
  obtain ⟨r2, hc1, hyp⟩ := ab_bind hyp
  refine ab_callV (h' := lay M) 6 0 0 [.ref 3] [.int r2, .ref 3] d_M_of_3 ok_M_is lk_51 (c_M_is hc1) rfl rfl ?_
  refine ab_if_ne 13 9 d_M_of_6 (fun z3 => ?_) (fun z3 => ?_)
  · replace hyp := ab_neg z3 hyp
    refine ab_iconst 14 d_M_of_13 (0 : Int32) (by decide) ?_
    refine ab_pick [0, 1, 2] [(0, _), (1, _), (2, _)] rfl ?_
    exact q_M_of_c14 v1 v2 (0 : Int32) M hyp
  · replace hyp := ab_pos z3 hyp
    refine ab_iconst 10 d_M_of_9 (1 : Int32) (by decide) ?_
    refine ab_goto 14 d_M_of_10 ?_
    refine ab_pick [0, 1, 2] [(0, _), (1, _), (2, _)] rfl ?_
    exact q_M_of_c14 v1 v2 (1 : Int32) M hyp
/-! M_animals -/
def M_animals (M : Me) : Option (Int32 × Me) :=
  some ((gF (sF M 4 (0 : Int32)) 5), (sF M 4 (0 : Int32)))
def rm_M_animals : Room := { frames := 0, locals := 0, cells := 0, slots := 0 }
theorem c_M_animals {M : Me} {r : Int32 × Me} (hyp : M_animals M = some r) : ab_Met y_M_animals rm_M_animals [.ref 3] (lay M) (.ok (some (.int r.1))) (lay r.2) := by
  refine ab_start rfl rfl (Nat.le_of_ble_eq_true rfl) (fun l D B ad => ?_)
  show ab_V _ ad 0 [(0, .ref 3)] [] _ 0 0
  unfold M_animals at hyp
  refine ab_aload_n 1 d_M_animals_0 rfl ?_
  refine ab_iconst 2 d_M_animals_1 (0 : Int32) (by decide) ?_
  refine ab_puti 5 d_M_animals_2 fw_5 rfl (lay_F4 _ _) ?_
  refine ab_aload_n 6 d_M_animals_5 rfl ?_
  refine ab_get 9 d_M_animals_6 fd_25 rfl rfl ?_
  cases hyp
  exact ab_ireturn d_M_animals_9 rfl rfl rfl (Nat.le_of_ble_eq_true rfl) (Nat.le_of_ble_eq_true rfl)
/-! M_kinship -/
def M_kinship_c22 (v1 : Int32) (v2 : Int32) (s0 : Int32) (M : Me) : Option (Int64 × Me) :=
  Option.bind (M_refused M s0 (0 : Int32) (0 : Int32) (0 : Int32)) (fun r2 => if r2.1 = (0 : Int32) then (Option.bind (M_kinOf r2.2 v1 v2) (fun r5 => some (r5, r2.2))) else (some ((0 : Int64), r2.2)))
def M_kinship (M : Me) (v1 : Int32) (v2 : Int32) : Option (Int64 × Me) :=
  Option.bind (M_is M v1) (fun r2 => if r2 = (0 : Int32) then (M_kinship_c22 v1 v2 (1 : Int32) M) else (Option.bind (M_is M v2) (fun r5 => if r5 = (0 : Int32) then (M_kinship_c22 v1 v2 (1 : Int32) M) else (M_kinship_c22 v1 v2 (0 : Int32) M))))
def rm_M_kinship : Room := { frames := 1, locals := 24, cells := 0, slots := 0 }
theorem q_M_kinship_c22 {l : Launch} {D : va_G} {B : Nat} {ad : Nat → Nat} {r : Int64 × Me} (v1 : Int32) (v2 : Int32) (s0 : Int32) (M : Me) (hyp : M_kinship_c22 v1 v2 s0 M = some r) : ab_V (ab_km l D B ad y_M_kinship rm_M_kinship (.ok (some (.long r.1))) (lay r.2)) ad 22 [(0, .ref 3), (1, .int v1), (2, .int v2)] [.int s0, .ref 3] (lay M) 0 0 := by
  unfold M_kinship_c22 at hyp
  refine ab_iconst 23 d_M_kinship_22 (0 : Int32) (by decide) ?_
  refine ab_iconst 24 d_M_kinship_23 (0 : Int32) (by decide) ?_
  refine ab_iconst 25 d_M_kinship_24 (0 : Int32) (by decide) ?_
  obtain ⟨r2, hc1, hyp⟩ := ab_bind hyp
  refine ab_callV (h' := lay r2.2) 28 0 0 [] [.int r2.1] d_M_kinship_25 ok_M_refused lk_55 (c_M_refused hc1) rfl rfl ?_
  refine ab_if_eq 35 31 d_M_kinship_28 (fun z3 => ?_) (fun z3 => ?_)
  · replace hyp := ab_pos z3 hyp
    refine ab_aload_n 36 d_M_kinship_35 rfl ?_
    refine ab_iload_n 37 d_M_kinship_36 rfl ?_
    refine ab_iload_n 38 d_M_kinship_37 rfl ?_
    obtain ⟨r5, hc4, hyp⟩ := ab_bind hyp
    refine ab_callV (h' := lay r2.2) 41 0 0 [] [.long r5] d_M_kinship_38 ok_M_kinOf lk_52 (c_M_kinOf hc4) rfl rfl ?_
    cases hyp
    exact ab_lreturn d_M_kinship_41 rfl rfl rfl (Nat.le_of_ble_eq_true rfl) (Nat.le_of_ble_eq_true rfl)
  · replace hyp := ab_neg z3 hyp
    refine ab_lconst 32 d_M_kinship_31 (0 : Int64) (by decide) ?_
    refine ab_goto 41 d_M_kinship_32 ?_
    cases hyp
    exact ab_lreturn d_M_kinship_41 rfl rfl rfl (Nat.le_of_ble_eq_true rfl) (Nat.le_of_ble_eq_true rfl)
theorem c_M_kinship {M : Me} {v1 : Int32} {v2 : Int32} {r : Int64 × Me} (hyp : M_kinship M v1 v2 = some r) : ab_Met y_M_kinship rm_M_kinship [.ref 3, .int v1, .int v2] (lay M) (.ok (some (.long r.1))) (lay r.2) := by
  refine ab_start rfl rfl (Nat.le_of_ble_eq_true rfl) (fun l D B ad => ?_)
  show ab_V _ ad 0 [(0, .ref 3), (1, .int v1), (2, .int v2)] [] _ 0 0
  unfold M_kinship at hyp
  refine ab_aload_n 1 d_M_kinship_0 rfl ?_
  refine ab_aload_n 2 d_M_kinship_1 rfl ?_
  refine ab_iload_n 3 d_M_kinship_2 rfl ?_
  obtain ⟨r2, hc1, hyp⟩ := ab_bind hyp
  refine ab_callV (h' := lay M) 6 0 0 [.ref 3] [.int r2, .ref 3] d_M_kinship_3 ok_M_is lk_51 (c_M_is hc1) rfl rfl ?_
  refine ab_if_eq 17 9 d_M_kinship_6 (fun z3 => ?_) (fun z3 => ?_)
  · replace hyp := ab_pos z3 hyp
    refine ab_iconst 18 d_M_kinship_17 (1 : Int32) (by decide) ?_
    refine ab_goto 22 d_M_kinship_18 ?_
    refine ab_pick [0, 1, 2] [(0, _), (1, _), (2, _)] rfl ?_
    exact q_M_kinship_c22 v1 v2 (1 : Int32) M hyp
  · replace hyp := ab_neg z3 hyp
    refine ab_aload_n 10 d_M_kinship_9 rfl ?_
    refine ab_iload_n 11 d_M_kinship_10 rfl ?_
    obtain ⟨r5, hc4, hyp⟩ := ab_bind hyp
    refine ab_callV (h' := lay M) 14 0 0 [.ref 3] [.int r5, .ref 3] d_M_kinship_11 ok_M_is lk_51 (c_M_is hc4) rfl rfl ?_
    refine ab_if_ne 21 17 d_M_kinship_14 (fun z6 => ?_) (fun z6 => ?_)
    · replace hyp := ab_neg z6 hyp
      refine ab_iconst 22 d_M_kinship_21 (0 : Int32) (by decide) ?_
      refine ab_pick [0, 1, 2] [(0, _), (1, _), (2, _)] rfl ?_
      exact q_M_kinship_c22 v1 v2 (0 : Int32) M hyp
    · replace hyp := ab_pos z6 hyp
      refine ab_iconst 18 d_M_kinship_17 (1 : Int32) (by decide) ?_
      refine ab_goto 22 d_M_kinship_18 ?_
      refine ab_pick [0, 1, 2] [(0, _), (1, _), (2, _)] rfl ?_
      exact q_M_kinship_c22 v1 v2 (1 : Int32) M hyp
/-! M_inbreeding -/
def M_inbreeding_c14 (v1 : Int32) (s0 : Int32) (M : Me) : Option (Int64 × Me) :=
  Option.bind (M_refused M s0 (0 : Int32) (0 : Int32) (0 : Int32)) (fun r2 => if r2.1 = (0 : Int32) then (gd (inb v1 24) (some ((gL r2.2 5 v1), r2.2))) else (some ((0 : Int64), r2.2)))
def M_inbreeding (M : Me) (v1 : Int32) : Option (Int64 × Me) :=
  Option.bind (M_is M v1) (fun r2 => if r2 = (0 : Int32) then (M_inbreeding_c14 v1 (1 : Int32) M) else (M_inbreeding_c14 v1 (0 : Int32) M))
def rm_M_inbreeding : Room := { frames := 1, locals := 24, cells := 0, slots := 0 }
theorem q_M_inbreeding_c14 {l : Launch} {D : va_G} {B : Nat} {ad : Nat → Nat} {r : Int64 × Me} (v1 : Int32) (s0 : Int32) (M : Me) (hyp : M_inbreeding_c14 v1 s0 M = some r) : ab_V (ab_km l D B ad y_M_inbreeding rm_M_inbreeding (.ok (some (.long r.1))) (lay r.2)) ad 14 [(0, .ref 3), (1, .int v1)] [.int s0, .ref 3] (lay M) 0 0 := by
  unfold M_inbreeding_c14 at hyp
  refine ab_iconst 15 d_M_inbreeding_14 (0 : Int32) (by decide) ?_
  refine ab_iconst 16 d_M_inbreeding_15 (0 : Int32) (by decide) ?_
  refine ab_iconst 17 d_M_inbreeding_16 (0 : Int32) (by decide) ?_
  obtain ⟨r2, hc1, hyp⟩ := ab_bind hyp
  refine ab_callV (h' := lay r2.2) 20 0 0 [] [.int r2.1] d_M_inbreeding_17 ok_M_refused lk_55 (c_M_refused hc1) rfl rfl ?_
  refine ab_if_eq 27 23 d_M_inbreeding_20 (fun z3 => ?_) (fun z3 => ?_)
  · replace hyp := ab_pos z3 hyp
    refine ab_aload_n 28 d_M_inbreeding_27 rfl ?_
    refine ab_get 31 d_M_inbreeding_28 fd_29 rfl rfl ?_
    refine ab_iload_n 32 d_M_inbreeding_31 rfl ?_
    obtain ⟨g4, hyp⟩ := ab_gd hyp
    refine ab_lld 5 24 33 d_M_inbreeding_32 rfl g4 ?_
    cases hyp
    exact ab_lreturn d_M_inbreeding_33 rfl rfl rfl (Nat.le_of_ble_eq_true rfl) (Nat.le_of_ble_eq_true rfl)
  · replace hyp := ab_neg z3 hyp
    refine ab_lconst 24 d_M_inbreeding_23 (0 : Int64) (by decide) ?_
    refine ab_goto 33 d_M_inbreeding_24 ?_
    cases hyp
    exact ab_lreturn d_M_inbreeding_33 rfl rfl rfl (Nat.le_of_ble_eq_true rfl) (Nat.le_of_ble_eq_true rfl)
theorem c_M_inbreeding {M : Me} {v1 : Int32} {r : Int64 × Me} (hyp : M_inbreeding M v1 = some r) : ab_Met y_M_inbreeding rm_M_inbreeding [.ref 3, .int v1] (lay M) (.ok (some (.long r.1))) (lay r.2) := by
  refine ab_start rfl rfl (Nat.le_of_ble_eq_true rfl) (fun l D B ad => ?_)
  show ab_V _ ad 0 [(0, .ref 3), (1, .int v1)] [] _ 0 0
  unfold M_inbreeding at hyp
  refine ab_aload_n 1 d_M_inbreeding_0 rfl ?_
  refine ab_aload_n 2 d_M_inbreeding_1 rfl ?_
  refine ab_iload_n 3 d_M_inbreeding_2 rfl ?_
  obtain ⟨r2, hc1, hyp⟩ := ab_bind hyp
  refine ab_callV (h' := lay M) 6 0 0 [.ref 3] [.int r2, .ref 3] d_M_inbreeding_3 ok_M_is lk_51 (c_M_is hc1) rfl rfl ?_
  refine ab_if_ne 13 9 d_M_inbreeding_6 (fun z3 => ?_) (fun z3 => ?_)
  · replace hyp := ab_neg z3 hyp
    refine ab_iconst 14 d_M_inbreeding_13 (0 : Int32) (by decide) ?_
    refine ab_pick [0, 1] [(0, _), (1, _)] rfl ?_
    exact q_M_inbreeding_c14 v1 (0 : Int32) M hyp
  · replace hyp := ab_pos z3 hyp
    refine ab_iconst 10 d_M_inbreeding_9 (1 : Int32) (by decide) ?_
    refine ab_goto 14 d_M_inbreeding_10 ?_
    refine ab_pick [0, 1] [(0, _), (1, _)] rfl ?_
    exact q_M_inbreeding_c14 v1 (1 : Int32) M hyp
/-! M_calf -/
def M_calf_c22 (v1 : Int32) (v2 : Int32) (s0 : Int32) (M : Me) : Option (Int64 × Me) :=
  Option.bind (M_refused M s0 (0 : Int32) (0 : Int32) (0 : Int32)) (fun r2 => if r2.1 = (0 : Int32) then (Option.bind (M_kinOf r2.2 v1 v2) (fun r5 => some (r5, r2.2))) else (some ((0 : Int64), r2.2)))
def M_calf (M : Me) (v1 : Int32) (v2 : Int32) : Option (Int64 × Me) :=
  Option.bind (M_is M v1) (fun r2 => if r2 = (0 : Int32) then (M_calf_c22 v1 v2 (1 : Int32) M) else (Option.bind (M_is M v2) (fun r5 => if r5 = (0 : Int32) then (M_calf_c22 v1 v2 (1 : Int32) M) else (M_calf_c22 v1 v2 (0 : Int32) M))))
def rm_M_calf : Room := { frames := 1, locals := 24, cells := 0, slots := 0 }
theorem q_M_calf_c22 {l : Launch} {D : va_G} {B : Nat} {ad : Nat → Nat} {r : Int64 × Me} (v1 : Int32) (v2 : Int32) (s0 : Int32) (M : Me) (hyp : M_calf_c22 v1 v2 s0 M = some r) : ab_V (ab_km l D B ad y_M_calf rm_M_calf (.ok (some (.long r.1))) (lay r.2)) ad 22 [(0, .ref 3), (1, .int v1), (2, .int v2)] [.int s0, .ref 3] (lay M) 0 0 := by
  unfold M_calf_c22 at hyp
  refine ab_iconst 23 d_M_calf_22 (0 : Int32) (by decide) ?_
  refine ab_iconst 24 d_M_calf_23 (0 : Int32) (by decide) ?_
  refine ab_iconst 25 d_M_calf_24 (0 : Int32) (by decide) ?_
  obtain ⟨r2, hc1, hyp⟩ := ab_bind hyp
  refine ab_callV (h' := lay r2.2) 28 0 0 [] [.int r2.1] d_M_calf_25 ok_M_refused lk_55 (c_M_refused hc1) rfl rfl ?_
  refine ab_if_eq 35 31 d_M_calf_28 (fun z3 => ?_) (fun z3 => ?_)
  · replace hyp := ab_pos z3 hyp
    refine ab_aload_n 36 d_M_calf_35 rfl ?_
    refine ab_iload_n 37 d_M_calf_36 rfl ?_
    refine ab_iload_n 38 d_M_calf_37 rfl ?_
    obtain ⟨r5, hc4, hyp⟩ := ab_bind hyp
    refine ab_callV (h' := lay r2.2) 41 0 0 [] [.long r5] d_M_calf_38 ok_M_kinOf lk_52 (c_M_kinOf hc4) rfl rfl ?_
    cases hyp
    exact ab_lreturn d_M_calf_41 rfl rfl rfl (Nat.le_of_ble_eq_true rfl) (Nat.le_of_ble_eq_true rfl)
  · replace hyp := ab_neg z3 hyp
    refine ab_lconst 32 d_M_calf_31 (0 : Int64) (by decide) ?_
    refine ab_goto 41 d_M_calf_32 ?_
    cases hyp
    exact ab_lreturn d_M_calf_41 rfl rfl rfl (Nat.le_of_ble_eq_true rfl) (Nat.le_of_ble_eq_true rfl)
theorem c_M_calf {M : Me} {v1 : Int32} {v2 : Int32} {r : Int64 × Me} (hyp : M_calf M v1 v2 = some r) : ab_Met y_M_calf rm_M_calf [.ref 3, .int v1, .int v2] (lay M) (.ok (some (.long r.1))) (lay r.2) := by
  refine ab_start rfl rfl (Nat.le_of_ble_eq_true rfl) (fun l D B ad => ?_)
  show ab_V _ ad 0 [(0, .ref 3), (1, .int v1), (2, .int v2)] [] _ 0 0
  unfold M_calf at hyp
  refine ab_aload_n 1 d_M_calf_0 rfl ?_
  refine ab_aload_n 2 d_M_calf_1 rfl ?_
  refine ab_iload_n 3 d_M_calf_2 rfl ?_
  obtain ⟨r2, hc1, hyp⟩ := ab_bind hyp
  refine ab_callV (h' := lay M) 6 0 0 [.ref 3] [.int r2, .ref 3] d_M_calf_3 ok_M_is lk_51 (c_M_is hc1) rfl rfl ?_
  refine ab_if_eq 17 9 d_M_calf_6 (fun z3 => ?_) (fun z3 => ?_)
  · replace hyp := ab_pos z3 hyp
    refine ab_iconst 18 d_M_calf_17 (1 : Int32) (by decide) ?_
    refine ab_goto 22 d_M_calf_18 ?_
    refine ab_pick [0, 1, 2] [(0, _), (1, _), (2, _)] rfl ?_
    exact q_M_calf_c22 v1 v2 (1 : Int32) M hyp
  · replace hyp := ab_neg z3 hyp
    refine ab_aload_n 10 d_M_calf_9 rfl ?_
    refine ab_iload_n 11 d_M_calf_10 rfl ?_
    obtain ⟨r5, hc4, hyp⟩ := ab_bind hyp
    refine ab_callV (h' := lay M) 14 0 0 [.ref 3] [.int r5, .ref 3] d_M_calf_11 ok_M_is lk_51 (c_M_is hc4) rfl rfl ?_
    refine ab_if_ne 21 17 d_M_calf_14 (fun z6 => ?_) (fun z6 => ?_)
    · replace hyp := ab_neg z6 hyp
      refine ab_iconst 22 d_M_calf_21 (0 : Int32) (by decide) ?_
      refine ab_pick [0, 1, 2] [(0, _), (1, _), (2, _)] rfl ?_
      exact q_M_calf_c22 v1 v2 (0 : Int32) M hyp
    · replace hyp := ab_pos z6 hyp
      refine ab_iconst 18 d_M_calf_17 (1 : Int32) (by decide) ?_
      refine ab_goto 22 d_M_calf_18 ?_
      refine ab_pick [0, 1, 2] [(0, _), (1, _), (2, _)] rfl ?_
      exact q_M_calf_c22 v1 v2 (1 : Int32) M hyp
/-! M_isFounder -/
def M_isFounder (M : Me) (v1 : Int32) : Option Int32 :=
  gd (inb v1 24) (if (0 : Int32) ≤ (gI M 12 v1) then (some (0 : Int32)) else (gd (inb v1 24) (if (0 : Int32) ≤ (gI M 13 v1) then (some (0 : Int32)) else (some (1 : Int32)))))
def rm_M_isFounder : Room := { frames := 0, locals := 0, cells := 0, slots := 0 }
theorem c_M_isFounder {M : Me} {v1 : Int32} {r : Int32} (hyp : M_isFounder M v1 = some r) : ab_Met y_M_isFounder rm_M_isFounder [.ref 3, .int v1] (lay M) (.ok (some (.int r))) (lay M) := by
  refine ab_start rfl rfl (Nat.le_of_ble_eq_true rfl) (fun l D B ad => ?_)
  show ab_V _ ad 0 [(0, .ref 3), (1, .int v1)] [] _ 0 0
  unfold M_isFounder at hyp
  refine ab_aload_n 1 d_M_isFounder_0 rfl ?_
  refine ab_get 4 d_M_isFounder_1 fd_30 rfl rfl ?_
  refine ab_iload_n 5 d_M_isFounder_4 rfl ?_
  obtain ⟨g1, hyp⟩ := ab_gd hyp
  refine ab_ild 12 24 6 d_M_isFounder_5 rfl g1 ?_
  refine ab_if_ge 22 9 d_M_isFounder_6 (fun z2 => ?_) (fun z2 => ?_)
  · replace hyp := ab_pos z2 hyp
    refine ab_iconst 23 d_M_isFounder_22 (0 : Int32) (by decide) ?_
    cases hyp
    exact ab_zreturn d_M_isFounder_23 rfl rfl rfl rfl (Nat.le_of_ble_eq_true rfl) (Nat.le_of_ble_eq_true rfl)
  · replace hyp := ab_neg z2 hyp
    refine ab_aload_n 10 d_M_isFounder_9 rfl ?_
    refine ab_get 13 d_M_isFounder_10 fd_31 rfl rfl ?_
    refine ab_iload_n 14 d_M_isFounder_13 rfl ?_
    obtain ⟨g3, hyp⟩ := ab_gd hyp
    refine ab_ild 13 24 15 d_M_isFounder_14 rfl g3 ?_
    refine ab_if_ge 22 18 d_M_isFounder_15 (fun z4 => ?_) (fun z4 => ?_)
    · replace hyp := ab_pos z4 hyp
      refine ab_iconst 23 d_M_isFounder_22 (0 : Int32) (by decide) ?_
      cases hyp
      exact ab_zreturn d_M_isFounder_23 rfl rfl rfl rfl (Nat.le_of_ble_eq_true rfl) (Nat.le_of_ble_eq_true rfl)
    · replace hyp := ab_neg z4 hyp
      refine ab_iconst 19 d_M_isFounder_18 (1 : Int32) (by decide) ?_
      refine ab_goto 23 d_M_isFounder_19 ?_
      cases hyp
      exact ab_zreturn d_M_isFounder_23 rfl rfl rfl rfl (Nat.le_of_ble_eq_true rfl) (Nat.le_of_ble_eq_true rfl)
