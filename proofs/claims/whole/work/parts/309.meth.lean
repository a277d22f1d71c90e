/-! M_fillShares -/
def M_fillShares_c59 (rec2 : Int32 → Int32 → Me → Option Me) (v1 : Int32) (v2 : Int32) (v3 : Int64) (s0 : Int64) (M : Me) : Option Me :=
  if v2 = v1 then (gd (inb v2 24) (rec2 v1 (v2 + (1 : Int32)) (sL M 6 v2 (1125899906842624 : Int64)))) else (gd (inb v2 24) (rec2 v1 (v2 + (1 : Int32)) (sL M 6 v2 ((v3 + s0) / (2 : Int64)))))
def M_fillShares_c34 (rec2 : Int32 → Int32 → Me → Option Me) (v1 : Int32) (v2 : Int32) (s0 : Int64) (M : Me) : Option Me :=
  gd (inb v2 24) (if (0 : Int32) ≤ (gI M 13 v2) then (gd (inb v2 24) (gd (inb (gI M 13 v2) 24) (M_fillShares_c59 rec2 v1 v2 s0 (gL M 6 (gI M 13 v2)) M))) else (M_fillShares_c59 rec2 v1 v2 s0 (0 : Int64) M))
def M_fillShares_b2 (rec2 : Int32 → Int32 → Me → Option Me) (v1 : Int32) (v2 : Int32) (M : Me) : Option Me :=
  if (gF M 5) ≤ v2 then (some M) else (gd (inb v2 24) (if (0 : Int32) ≤ (gI M 12 v2) then (gd (inb v2 24) (gd (inb (gI M 12 v2) 24) (M_fillShares_c34 rec2 v1 v2 (gL M 6 (gI M 12 v2)) M))) else (M_fillShares_c34 rec2 v1 v2 (0 : Int64) M)))
def M_fillShares_L2 : Nat → Int32 → Int32 → Me → Option Me
  | 0, _, _, _ => none
  | F + 1, v1, v2, M => M_fillShares_b2 (M_fillShares_L2 F) v1 v2 M
def M_fillShares (M : Me) (v1 : Int32) : Option Me :=
  M_fillShares_L2 64 v1 (0 : Int32) M
def rm_M_fillShares : Room := { frames := 0, locals := 0, cells := 0, slots := 0 }
theorem q_M_fillShares_c59 {l : Launch} {D : va_G} {B : Nat} {ad : Nat → Nat} {r : Me} (rec2 : Int32 → Int32 → Me → Option Me) (hrec2 : ∀ (v1 : Int32) (v2 : Int32) (M : Me) , rec2 v1 v2 M = some r → ab_V (ab_km l D B ad y_M_fillShares rm_M_fillShares (.ok none) (lay r)) ad 2 [(0, .ref 3), (1, .int v1), (2, .int v2)] [] (lay M) 0 0) (v1 : Int32) (v2 : Int32) (v3 : Int64) (s0 : Int64) (M : Me) (hyp : M_fillShares_c59 rec2 v1 v2 v3 s0 M = some r) : ab_V (ab_km l D B ad y_M_fillShares rm_M_fillShares (.ok none) (lay r)) ad 59 [(0, .ref 3), (1, .int v1), (2, .int v2), (3, .long v3)] [.long s0] (lay M) 0 0 := by
  unfold M_fillShares_c59 at hyp
  refine ab_lstore 61 [(5, _), (0, _), (1, _), (2, _), (3, _)] d_M_fillShares_59 rfl ?_
  refine ab_aload_n 62 d_M_fillShares_61 rfl ?_
  refine ab_get 65 d_M_fillShares_62 fd_32 rfl rfl ?_
  refine ab_iload_n 66 d_M_fillShares_65 rfl ?_
  refine ab_iload_n 67 d_M_fillShares_66 rfl ?_
  refine ab_iload_n 68 d_M_fillShares_67 rfl ?_
  refine ab_ic_ne 77 71 d_M_fillShares_68 (fun z1 => ?_) (fun z1 => ?_)
  · replace hyp := ab_neg z1 hyp
    refine ab_lload_n 78 d_M_fillShares_77 rfl ?_
    refine ab_lload 80 d_M_fillShares_78 rfl ?_
    refine ab_ladd 81 d_M_fillShares_80 ?_
    refine ab_ldc2 (v := (2 : Int64)) 84 d_M_fillShares_81 w_8 ?_
    refine ab_ldiv 85 d_M_fillShares_84 (by decide) ?_
    obtain ⟨g2, hyp⟩ := ab_gd hyp
    refine ab_lst 6 24 86 d_M_fillShares_85 rfl g2 lay_L6 ?_
    refine ab_iinc 89 [(2, _), (5, _), (0, _), (1, _), (3, _)] d_M_fillShares_86 (1 : Int32) (by decide) rfl rfl ?_
    refine ab_goto 2 d_M_fillShares_89 ?_
    refine ab_pick [2, 3, 0] [(0, _), (1, _), (2, _)] rfl ?_
    exact hrec2 v1 (v2 + (1 : Int32)) (sL M 6 v2 ((v3 + s0) / (2 : Int64))) hyp
  · replace hyp := ab_pos z1 hyp
    refine ab_ldc2 (v := (1125899906842624 : Int64)) 74 d_M_fillShares_71 w_7 ?_
    refine ab_goto 85 d_M_fillShares_74 ?_
    obtain ⟨g3, hyp⟩ := ab_gd hyp
    refine ab_lst 6 24 86 d_M_fillShares_85 rfl g3 lay_L6 ?_
    refine ab_iinc 89 [(2, _), (5, _), (0, _), (1, _), (3, _)] d_M_fillShares_86 (1 : Int32) (by decide) rfl rfl ?_
    refine ab_goto 2 d_M_fillShares_89 ?_
    refine ab_pick [2, 3, 0] [(0, _), (1, _), (2, _)] rfl ?_
    exact hrec2 v1 (v2 + (1 : Int32)) (sL M 6 v2 (1125899906842624 : Int64)) hyp
theorem q_M_fillShares_c34 {l : Launch} {D : va_G} {B : Nat} {ad : Nat → Nat} {r : Me} (rec2 : Int32 → Int32 → Me → Option Me) (hrec2 : ∀ (v1 : Int32) (v2 : Int32) (M : Me) , rec2 v1 v2 M = some r → ab_V (ab_km l D B ad y_M_fillShares rm_M_fillShares (.ok none) (lay r)) ad 2 [(0, .ref 3), (1, .int v1), (2, .int v2)] [] (lay M) 0 0) (v1 : Int32) (v2 : Int32) (s0 : Int64) (M : Me) (hyp : M_fillShares_c34 rec2 v1 v2 s0 M = some r) : ab_V (ab_km l D B ad y_M_fillShares rm_M_fillShares (.ok none) (lay r)) ad 34 [(0, .ref 3), (1, .int v1), (2, .int v2)] [.long s0] (lay M) 0 0 := by
  unfold M_fillShares_c34 at hyp
  refine ab_lstore_n 35 [(3, _), (0, _), (1, _), (2, _)] d_M_fillShares_34 rfl ?_
  refine ab_aload_n 36 d_M_fillShares_35 rfl ?_
  refine ab_get 39 d_M_fillShares_36 fd_31 rfl rfl ?_
  refine ab_iload_n 40 d_M_fillShares_39 rfl ?_
  obtain ⟨g1, hyp⟩ := ab_gd hyp
  refine ab_ild 13 24 41 d_M_fillShares_40 rfl g1 ?_
  refine ab_if_ge 48 44 d_M_fillShares_41 (fun z2 => ?_) (fun z2 => ?_)
  · replace hyp := ab_pos z2 hyp
    refine ab_aload_n 49 d_M_fillShares_48 rfl ?_
    refine ab_get 52 d_M_fillShares_49 fd_32 rfl rfl ?_
    refine ab_aload_n 53 d_M_fillShares_52 rfl ?_
    refine ab_get 56 d_M_fillShares_53 fd_31 rfl rfl ?_
    refine ab_iload_n 57 d_M_fillShares_56 rfl ?_
    obtain ⟨g3, hyp⟩ := ab_gd hyp
    refine ab_ild 13 24 58 d_M_fillShares_57 rfl g3 ?_
    obtain ⟨g4, hyp⟩ := ab_gd hyp
    refine ab_lld 6 24 59 d_M_fillShares_58 rfl g4 ?_
    refine ab_pick [1, 2, 3, 0] [(0, _), (1, _), (2, _), (3, _)] rfl ?_
    exact q_M_fillShares_c59 rec2 hrec2 v1 v2 s0 (gL M 6 (gI M 13 v2)) M hyp
  · replace hyp := ab_neg z2 hyp
    refine ab_lconst 45 d_M_fillShares_44 (0 : Int64) (by decide) ?_
    refine ab_goto 59 d_M_fillShares_45 ?_
    refine ab_pick [1, 2, 3, 0] [(0, _), (1, _), (2, _), (3, _)] rfl ?_
    exact q_M_fillShares_c59 rec2 hrec2 v1 v2 s0 (0 : Int64) M hyp
theorem q_M_fillShares_b2 {l : Launch} {D : va_G} {B : Nat} {ad : Nat → Nat} {r : Me} (rec2 : Int32 → Int32 → Me → Option Me) (hrec2 : ∀ (v1 : Int32) (v2 : Int32) (M : Me) , rec2 v1 v2 M = some r → ab_V (ab_km l D B ad y_M_fillShares rm_M_fillShares (.ok none) (lay r)) ad 2 [(0, .ref 3), (1, .int v1), (2, .int v2)] [] (lay M) 0 0) (v1 : Int32) (v2 : Int32) (M : Me) (hyp : M_fillShares_b2 rec2 v1 v2 M = some r) : ab_V (ab_km l D B ad y_M_fillShares rm_M_fillShares (.ok none) (lay r)) ad 2 [(0, .ref 3), (1, .int v1), (2, .int v2)] [] (lay M) 0 0 := by
  unfold M_fillShares_b2 at hyp
  refine ab_iload_n 3 d_M_fillShares_2 rfl ?_
  refine ab_aload_n 4 d_M_fillShares_3 rfl ?_
  refine ab_get 7 d_M_fillShares_4 fd_25 rfl rfl ?_
  refine ab_ic_ge 92 10 d_M_fillShares_7 (fun z1 => ?_) (fun z1 => ?_)
  · replace hyp := ab_pos z1 hyp
    cases hyp
    exact ab_return d_M_fillShares_92 rfl rfl rfl (Nat.le_of_ble_eq_true rfl) (Nat.le_of_ble_eq_true rfl)
  · replace hyp := ab_neg z1 hyp
    refine ab_aload_n 11 d_M_fillShares_10 rfl ?_
    refine ab_get 14 d_M_fillShares_11 fd_30 rfl rfl ?_
    refine ab_iload_n 15 d_M_fillShares_14 rfl ?_
    obtain ⟨g2, hyp⟩ := ab_gd hyp
    refine ab_ild 12 24 16 d_M_fillShares_15 rfl g2 ?_
    refine ab_if_ge 23 19 d_M_fillShares_16 (fun z3 => ?_) (fun z3 => ?_)
    · replace hyp := ab_pos z3 hyp
      refine ab_aload_n 24 d_M_fillShares_23 rfl ?_
      refine ab_get 27 d_M_fillShares_24 fd_32 rfl rfl ?_
      refine ab_aload_n 28 d_M_fillShares_27 rfl ?_
      refine ab_get 31 d_M_fillShares_28 fd_30 rfl rfl ?_
      refine ab_iload_n 32 d_M_fillShares_31 rfl ?_
      obtain ⟨g4, hyp⟩ := ab_gd hyp
      refine ab_ild 12 24 33 d_M_fillShares_32 rfl g4 ?_
      obtain ⟨g5, hyp⟩ := ab_gd hyp
      refine ab_lld 6 24 34 d_M_fillShares_33 rfl g5 ?_
      refine ab_pick [0, 1, 2] [(0, _), (1, _), (2, _)] rfl ?_
      exact q_M_fillShares_c34 rec2 hrec2 v1 v2 (gL M 6 (gI M 12 v2)) M hyp
    · replace hyp := ab_neg z3 hyp
      refine ab_lconst 20 d_M_fillShares_19 (0 : Int64) (by decide) ?_
      refine ab_goto 34 d_M_fillShares_20 ?_
      refine ab_pick [0, 1, 2] [(0, _), (1, _), (2, _)] rfl ?_
      exact q_M_fillShares_c34 rec2 hrec2 v1 v2 (0 : Int64) M hyp
theorem q_M_fillShares_L2 {l : Launch} {D : va_G} {B : Nat} {ad : Nat → Nat} {r : Me} : ∀ (F : Nat) (v1 : Int32) (v2 : Int32) (M : Me) , M_fillShares_L2 F v1 v2 M = some r → ab_V (ab_km l D B ad y_M_fillShares rm_M_fillShares (.ok none) (lay r)) ad 2 [(0, .ref 3), (1, .int v1), (2, .int v2)] [] (lay M) 0 0 := by
  intro F
  induction F with
  | zero =>
    intro v1 v2 M hyp
    have h2 : (none : Option Me) = some r := hyp
    cases h2
  | succ F ih =>
    intro v1 v2 M hyp
    exact q_M_fillShares_b2 (M_fillShares_L2 F) ih v1 v2 M hyp
theorem c_M_fillShares {M : Me} {v1 : Int32} {r : Me} (hyp : M_fillShares M v1 = some r) : ab_Met y_M_fillShares rm_M_fillShares [.ref 3, .int v1] (lay M) (.ok none) (lay r) := by
  refine ab_start rfl rfl (Nat.le_of_ble_eq_true rfl) (fun l D B ad => ?_)
  show ab_V _ ad 0 [(0, .ref 3), (1, .int v1)] [] _ 0 0
  unfold M_fillShares at hyp
  refine ab_iconst 1 d_M_fillShares_0 (0 : Int32) (by decide) ?_
  refine ab_istore_n 2 [(2, _), (0, _), (1, _)] d_M_fillShares_1 rfl ?_
  refine ab_pick [1, 2, 0] [(0, _), (1, _), (2, _)] rfl ?_
  exact q_M_fillShares_L2 64 v1 (0 : Int32) M hyp
/-! M_share -/
def M_share_c49 (v1 : Int32) (v2 : Int32) (s0 : Int32) (s1 : Int32) (M : Me) : Option (Int64 × Me) :=
  Option.bind (M_refused M s1 s0 (0 : Int32) (0 : Int32)) (fun r2 => if r2.1 = (0 : Int32) then (Option.bind (M_fillShares r2.2 v1) (fun r5 => gd (inb v2 24) (some ((gL r5 6 v2), r5)))) else (some ((0 : Int64), r2.2)))
def M_share_c32 (v1 : Int32) (v2 : Int32) (v3 : Int32) (s0 : Int32) (M : Me) : Option (Int64 × Me) :=
  if v3 = (0 : Int32) then (M_share_c49 v1 v2 (0 : Int32) s0 M) else (Option.bind (M_isFounder M v1) (fun r3 => if r3 = (0 : Int32) then (M_share_c49 v1 v2 (1 : Int32) s0 M) else (M_share_c49 v1 v2 (0 : Int32) s0 M)))
def M_share_c21 (v1 : Int32) (v2 : Int32) (s0 : Int32) (M : Me) : Option (Int64 × Me) :=
  if s0 = (0 : Int32) then (M_share_c32 v1 v2 s0 (1 : Int32) M) else (M_share_c32 v1 v2 s0 (0 : Int32) M)
def M_share (M : Me) (v1 : Int32) (v2 : Int32) : Option (Int64 × Me) :=
  Option.bind (M_is M v1) (fun r2 => if r2 = (0 : Int32) then (M_share_c21 v1 v2 (0 : Int32) M) else (Option.bind (M_is M v2) (fun r5 => if r5 = (0 : Int32) then (M_share_c21 v1 v2 (0 : Int32) M) else (M_share_c21 v1 v2 (1 : Int32) M))))
def rm_M_share : Room := { frames := 1, locals := 26, cells := 0, slots := 0 }
theorem q_M_share_c49 {l : Launch} {D : va_G} {B : Nat} {ad : Nat → Nat} {r : Int64 × Me} (v1 : Int32) (v2 : Int32) (s0 : Int32) (s1 : Int32) (M : Me) (hyp : M_share_c49 v1 v2 s0 s1 M = some r) : ab_V (ab_km l D B ad y_M_share rm_M_share (.ok (some (.long r.1))) (lay r.2)) ad 49 [(0, .ref 3), (1, .int v1), (2, .int v2)] [.int s0, .int s1, .ref 3] (lay M) 0 0 := by
  unfold M_share_c49 at hyp
  refine ab_iconst 50 d_M_share_49 (0 : Int32) (by decide) ?_
  refine ab_iconst 51 d_M_share_50 (0 : Int32) (by decide) ?_
  obtain ⟨r2, hc1, hyp⟩ := ab_bind hyp
  refine ab_callV (h' := lay r2.2) 54 0 0 [] [.int r2.1] d_M_share_51 ok_M_refused lk_55 (c_M_refused hc1) rfl rfl ?_
  refine ab_if_eq 59 57 d_M_share_54 (fun z3 => ?_) (fun z3 => ?_)
  · replace hyp := ab_pos z3 hyp
    refine ab_aload_n 60 d_M_share_59 rfl ?_
    refine ab_iload_n 61 d_M_share_60 rfl ?_
    obtain ⟨r5, hc4, hyp⟩ := ab_bind hyp
    refine ab_callV (h' := lay r5) 64 0 0 [] [] d_M_share_61 ok_M_fillShares lk_59 (c_M_fillShares hc4) rfl rfl ?_
    refine ab_aload_n 65 d_M_share_64 rfl ?_
    refine ab_get 68 d_M_share_65 fd_32 rfl rfl ?_
    refine ab_iload_n 69 d_M_share_68 rfl ?_
    obtain ⟨g6, hyp⟩ := ab_gd hyp
    refine ab_lld 6 24 70 d_M_share_69 rfl g6 ?_
    cases hyp
    exact ab_lreturn d_M_share_70 rfl rfl rfl (Nat.le_of_ble_eq_true rfl) (Nat.le_of_ble_eq_true rfl)
  · replace hyp := ab_neg z3 hyp
    refine ab_lconst 58 d_M_share_57 (0 : Int64) (by decide) ?_
    cases hyp
    exact ab_lreturn d_M_share_58 rfl rfl rfl (Nat.le_of_ble_eq_true rfl) (Nat.le_of_ble_eq_true rfl)
theorem q_M_share_c32 {l : Launch} {D : va_G} {B : Nat} {ad : Nat → Nat} {r : Int64 × Me} (v1 : Int32) (v2 : Int32) (v3 : Int32) (s0 : Int32) (M : Me) (hyp : M_share_c32 v1 v2 v3 s0 M = some r) : ab_V (ab_km l D B ad y_M_share rm_M_share (.ok (some (.long r.1))) (lay r.2)) ad 32 [(0, .ref 3), (1, .int v1), (2, .int v2), (3, .int v3)] [.int s0, .ref 3] (lay M) 0 0 := by
  unfold M_share_c32 at hyp
  refine ab_iload_n 33 d_M_share_32 rfl ?_
  refine ab_if_eq 48 36 d_M_share_33 (fun z1 => ?_) (fun z1 => ?_)
  · replace hyp := ab_pos z1 hyp
    refine ab_iconst 49 d_M_share_48 (0 : Int32) (by decide) ?_
    refine ab_pick [0, 1, 2] [(0, _), (1, _), (2, _)] rfl ?_
    exact q_M_share_c49 v1 v2 (0 : Int32) s0 M hyp
  · replace hyp := ab_neg z1 hyp
    refine ab_aload_n 37 d_M_share_36 rfl ?_
    refine ab_iload_n 38 d_M_share_37 rfl ?_
    obtain ⟨r3, hc2, hyp⟩ := ab_bind hyp
    refine ab_callV (h' := lay M) 41 0 0 [.int s0, .ref 3] [.int r3, .int s0, .ref 3] d_M_share_38 ok_M_isFounder lk_58 (c_M_isFounder hc2) rfl rfl ?_
    refine ab_if_ne 48 44 d_M_share_41 (fun z4 => ?_) (fun z4 => ?_)
    · replace hyp := ab_neg z4 hyp
      refine ab_iconst 49 d_M_share_48 (0 : Int32) (by decide) ?_
      refine ab_pick [0, 1, 2] [(0, _), (1, _), (2, _)] rfl ?_
      exact q_M_share_c49 v1 v2 (0 : Int32) s0 M hyp
    · replace hyp := ab_pos z4 hyp
      refine ab_iconst 45 d_M_share_44 (1 : Int32) (by decide) ?_
      refine ab_goto 49 d_M_share_45 ?_
      refine ab_pick [0, 1, 2] [(0, _), (1, _), (2, _)] rfl ?_
      exact q_M_share_c49 v1 v2 (1 : Int32) s0 M hyp
theorem q_M_share_c21 {l : Launch} {D : va_G} {B : Nat} {ad : Nat → Nat} {r : Int64 × Me} (v1 : Int32) (v2 : Int32) (s0 : Int32) (M : Me) (hyp : M_share_c21 v1 v2 s0 M = some r) : ab_V (ab_km l D B ad y_M_share rm_M_share (.ok (some (.long r.1))) (lay r.2)) ad 21 [(0, .ref 3), (1, .int v1), (2, .int v2)] [.int s0] (lay M) 0 0 := by
  unfold M_share_c21 at hyp
  refine ab_istore_n 22 [(3, _), (0, _), (1, _), (2, _)] d_M_share_21 rfl ?_
  refine ab_aload_n 23 d_M_share_22 rfl ?_
  refine ab_iload_n 24 d_M_share_23 rfl ?_
  refine ab_if_ne 31 27 d_M_share_24 (fun z1 => ?_) (fun z1 => ?_)
  · replace hyp := ab_neg z1 hyp
    refine ab_iconst 32 d_M_share_31 (0 : Int32) (by decide) ?_
    refine ab_pick [1, 2, 3, 0] [(0, _), (1, _), (2, _), (3, _)] rfl ?_
    exact q_M_share_c32 v1 v2 s0 (0 : Int32) M hyp
  · replace hyp := ab_pos z1 hyp
    refine ab_iconst 28 d_M_share_27 (1 : Int32) (by decide) ?_
    refine ab_goto 32 d_M_share_28 ?_
    refine ab_pick [1, 2, 3, 0] [(0, _), (1, _), (2, _), (3, _)] rfl ?_
    exact q_M_share_c32 v1 v2 s0 (1 : Int32) M hyp
theorem c_M_share {M : Me} {v1 : Int32} {v2 : Int32} {r : Int64 × Me} (hyp : M_share M v1 v2 = some r) : ab_Met y_M_share rm_M_share [.ref 3, .int v1, .int v2] (lay M) (.ok (some (.long r.1))) (lay r.2) := by
  refine ab_start rfl rfl (Nat.le_of_ble_eq_true rfl) (fun l D B ad => ?_)
  show ab_V _ ad 0 [(0, .ref 3), (1, .int v1), (2, .int v2)] [] _ 0 0
  unfold M_share at hyp
  refine ab_aload_n 1 d_M_share_0 rfl ?_
  refine ab_iload_n 2 d_M_share_1 rfl ?_
  obtain ⟨r2, hc1, hyp⟩ := ab_bind hyp
  refine ab_callV (h' := lay M) 5 0 0 [] [.int r2] d_M_share_2 ok_M_is lk_51 (c_M_is hc1) rfl rfl ?_
  refine ab_if_eq 20 8 d_M_share_5 (fun z3 => ?_) (fun z3 => ?_)
  · replace hyp := ab_pos z3 hyp
    refine ab_iconst 21 d_M_share_20 (0 : Int32) (by decide) ?_
    refine ab_pick [0, 1, 2] [(0, _), (1, _), (2, _)] rfl ?_
    exact q_M_share_c21 v1 v2 (0 : Int32) M hyp
  · replace hyp := ab_neg z3 hyp
    refine ab_aload_n 9 d_M_share_8 rfl ?_
    refine ab_iload_n 10 d_M_share_9 rfl ?_
    obtain ⟨r5, hc4, hyp⟩ := ab_bind hyp
    refine ab_callV (h' := lay M) 13 0 0 [] [.int r5] d_M_share_10 ok_M_is lk_51 (c_M_is hc4) rfl rfl ?_
    refine ab_if_eq 20 16 d_M_share_13 (fun z6 => ?_) (fun z6 => ?_)
    · replace hyp := ab_pos z6 hyp
      refine ab_iconst 21 d_M_share_20 (0 : Int32) (by decide) ?_
      refine ab_pick [0, 1, 2] [(0, _), (1, _), (2, _)] rfl ?_
      exact q_M_share_c21 v1 v2 (0 : Int32) M hyp
    · replace hyp := ab_neg z6 hyp
      refine ab_iconst 17 d_M_share_16 (1 : Int32) (by decide) ?_
      refine ab_goto 21 d_M_share_17 ?_
      refine ab_pick [0, 1, 2] [(0, _), (1, _), (2, _)] rfl ?_
      exact q_M_share_c21 v1 v2 (1 : Int32) M hyp
/-! M_unknown -/
def M_unknown_b32 (rec32 : Int32 → Int64 → Int32 → Me → Option (Int64 × Me)) (v1 : Int32) (v2 : Int64) (v4 : Int32) (M : Me) : Option (Int64 × Me) :=
  if (gF M 5) ≤ v4 then (some (v2, M)) else (Option.bind (M_isFounder M v4) (fun r3 => if r3 = (0 : Int32) then (rec32 v1 v2 (v4 + (1 : Int32)) M) else (Option.bind (M_fillShares M v4) (fun r6 => gd (inb v1 24) (rec32 v1 (v2 - (gL r6 6 v1)) (v4 + (1 : Int32)) r6)))))
def M_unknown_L32 : Nat → Int32 → Int64 → Int32 → Me → Option (Int64 × Me)
  | 0, _, _, _, _ => none
  | F + 1, v1, v2, v4, M => M_unknown_b32 (M_unknown_L32 F) v1 v2 v4 M
def M_unknown_c14 (v1 : Int32) (s0 : Int32) (M : Me) : Option (Int64 × Me) :=
  Option.bind (M_refused M s0 (0 : Int32) (0 : Int32) (0 : Int32)) (fun r2 => if r2.1 = (0 : Int32) then (M_unknown_L32 64 v1 (1125899906842624 : Int64) (0 : Int32) r2.2) else (some ((0 : Int64), r2.2)))
def M_unknown (M : Me) (v1 : Int32) : Option (Int64 × Me) :=
  Option.bind (M_is M v1) (fun r2 => if r2 = (0 : Int32) then (M_unknown_c14 v1 (1 : Int32) M) else (M_unknown_c14 v1 (0 : Int32) M))
def rm_M_unknown : Room := { frames := 1, locals := 26, cells := 0, slots := 0 }
theorem q_M_unknown_b32 {l : Launch} {D : va_G} {B : Nat} {ad : Nat → Nat} {r : Int64 × Me} (rec32 : Int32 → Int64 → Int32 → Me → Option (Int64 × Me)) (hrec32 : ∀ (v1 : Int32) (v2 : Int64) (v4 : Int32) (M : Me) , rec32 v1 v2 v4 M = some r → ab_V (ab_km l D B ad y_M_unknown rm_M_unknown (.ok (some (.long r.1))) (lay r.2)) ad 32 [(0, .ref 3), (1, .int v1), (2, .long v2), (4, .int v4)] [] (lay M) 0 0) (v1 : Int32) (v2 : Int64) (v4 : Int32) (M : Me) (hyp : M_unknown_b32 rec32 v1 v2 v4 M = some r) : ab_V (ab_km l D B ad y_M_unknown rm_M_unknown (.ok (some (.long r.1))) (lay r.2)) ad 32 [(0, .ref 3), (1, .int v1), (2, .long v2), (4, .int v4)] [] (lay M) 0 0 := by
  unfold M_unknown_b32 at hyp
  refine ab_iload 34 d_M_unknown_32 rfl ?_
  refine ab_aload_n 35 d_M_unknown_34 rfl ?_
  refine ab_get 38 d_M_unknown_35 fd_25 rfl rfl ?_
  refine ab_ic_ge 71 41 d_M_unknown_38 (fun z1 => ?_) (fun z1 => ?_)
  · replace hyp := ab_pos z1 hyp
    refine ab_lload_n 72 d_M_unknown_71 rfl ?_
    cases hyp
    exact ab_lreturn d_M_unknown_72 rfl rfl rfl (Nat.le_of_ble_eq_true rfl) (Nat.le_of_ble_eq_true rfl)
  · replace hyp := ab_neg z1 hyp
    refine ab_aload_n 42 d_M_unknown_41 rfl ?_
    refine ab_iload 44 d_M_unknown_42 rfl ?_
    obtain ⟨r3, hc2, hyp⟩ := ab_bind hyp
    refine ab_callV (h' := lay M) 47 0 0 [] [.int r3] d_M_unknown_44 ok_M_isFounder lk_58 (c_M_isFounder hc2) rfl rfl ?_
    refine ab_if_eq 65 50 d_M_unknown_47 (fun z4 => ?_) (fun z4 => ?_)
    · replace hyp := ab_pos z4 hyp
      refine ab_iinc 68 [(4, _), (0, _), (1, _), (2, _)] d_M_unknown_65 (1 : Int32) (by decide) rfl rfl ?_
      refine ab_goto 32 d_M_unknown_68 ?_
      refine ab_pick [1, 2, 3, 0] [(0, _), (1, _), (2, _), (4, _)] rfl ?_
      exact hrec32 v1 v2 (v4 + (1 : Int32)) M hyp
    · replace hyp := ab_neg z4 hyp
      refine ab_aload_n 51 d_M_unknown_50 rfl ?_
      refine ab_iload 53 d_M_unknown_51 rfl ?_
      obtain ⟨r6, hc5, hyp⟩ := ab_bind hyp
      refine ab_callV (h' := lay r6) 56 0 0 [] [] d_M_unknown_53 ok_M_fillShares lk_59 (c_M_fillShares hc5) rfl rfl ?_
      refine ab_lload_n 57 d_M_unknown_56 rfl ?_
      refine ab_aload_n 58 d_M_unknown_57 rfl ?_
      refine ab_get 61 d_M_unknown_58 fd_32 rfl rfl ?_
      refine ab_iload_n 62 d_M_unknown_61 rfl ?_
      obtain ⟨g7, hyp⟩ := ab_gd hyp
      refine ab_lld 6 24 63 d_M_unknown_62 rfl g7 ?_
      refine ab_lsub 64 d_M_unknown_63 ?_
      refine ab_lstore_n 65 [(2, _), (0, _), (1, _), (4, _)] d_M_unknown_64 rfl ?_
      refine ab_iinc 68 [(4, _), (2, _), (0, _), (1, _)] d_M_unknown_65 (1 : Int32) (by decide) rfl rfl ?_
      refine ab_goto 32 d_M_unknown_68 ?_
      refine ab_pick [2, 3, 1, 0] [(0, _), (1, _), (2, _), (4, _)] rfl ?_
      exact hrec32 v1 (v2 - (gL r6 6 v1)) (v4 + (1 : Int32)) r6 hyp
theorem q_M_unknown_L32 {l : Launch} {D : va_G} {B : Nat} {ad : Nat → Nat} {r : Int64 × Me} : ∀ (F : Nat) (v1 : Int32) (v2 : Int64) (v4 : Int32) (M : Me) , M_unknown_L32 F v1 v2 v4 M = some r → ab_V (ab_km l D B ad y_M_unknown rm_M_unknown (.ok (some (.long r.1))) (lay r.2)) ad 32 [(0, .ref 3), (1, .int v1), (2, .long v2), (4, .int v4)] [] (lay M) 0 0 := by
  intro F
  induction F with
  | zero =>
    intro v1 v2 v4 M hyp
    have h2 : (none : Option (Int64 × Me)) = some r := hyp
    cases h2
  | succ F ih =>
    intro v1 v2 v4 M hyp
    exact q_M_unknown_b32 (M_unknown_L32 F) ih v1 v2 v4 M hyp
theorem q_M_unknown_c14 {l : Launch} {D : va_G} {B : Nat} {ad : Nat → Nat} {r : Int64 × Me} (v1 : Int32) (s0 : Int32) (M : Me) (hyp : M_unknown_c14 v1 s0 M = some r) : ab_V (ab_km l D B ad y_M_unknown rm_M_unknown (.ok (some (.long r.1))) (lay r.2)) ad 14 [(0, .ref 3), (1, .int v1)] [.int s0, .ref 3] (lay M) 0 0 := by
  unfold M_unknown_c14 at hyp
  refine ab_iconst 15 d_M_unknown_14 (0 : Int32) (by decide) ?_
  refine ab_iconst 16 d_M_unknown_15 (0 : Int32) (by decide) ?_
  refine ab_iconst 17 d_M_unknown_16 (0 : Int32) (by decide) ?_
  obtain ⟨r2, hc1, hyp⟩ := ab_bind hyp
  refine ab_callV (h' := lay r2.2) 20 0 0 [] [.int r2.1] d_M_unknown_17 ok_M_refused lk_55 (c_M_refused hc1) rfl rfl ?_
  refine ab_if_eq 25 23 d_M_unknown_20 (fun z3 => ?_) (fun z3 => ?_)
  · replace hyp := ab_pos z3 hyp
    refine ab_ldc2 (v := (1125899906842624 : Int64)) 28 d_M_unknown_25 w_7 ?_
    refine ab_lstore_n 29 [(2, _), (0, _), (1, _)] d_M_unknown_28 rfl ?_
    refine ab_iconst 30 d_M_unknown_29 (0 : Int32) (by decide) ?_
    refine ab_istore 32 [(4, _), (2, _), (0, _), (1, _)] d_M_unknown_30 rfl ?_
    refine ab_pick [2, 3, 1, 0] [(0, _), (1, _), (2, _), (4, _)] rfl ?_
    exact q_M_unknown_L32 64 v1 (1125899906842624 : Int64) (0 : Int32) r2.2 hyp
  · replace hyp := ab_neg z3 hyp
    refine ab_lconst 24 d_M_unknown_23 (0 : Int64) (by decide) ?_
    cases hyp
    exact ab_lreturn d_M_unknown_24 rfl rfl rfl (Nat.le_of_ble_eq_true rfl) (Nat.le_of_ble_eq_true rfl)
theorem c_M_unknown {M : Me} {v1 : Int32} {r : Int64 × Me} (hyp : M_unknown M v1 = some r) : ab_Met y_M_unknown rm_M_unknown [.ref 3, .int v1] (lay M) (.ok (some (.long r.1))) (lay r.2) := by
  refine ab_start rfl rfl (Nat.le_of_ble_eq_true rfl) (fun l D B ad => ?_)
  show ab_V _ ad 0 [(0, .ref 3), (1, .int v1)] [] _ 0 0
  unfold M_unknown at hyp
  refine ab_aload_n 1 d_M_unknown_0 rfl ?_
  refine ab_aload_n 2 d_M_unknown_1 rfl ?_
  refine ab_iload_n 3 d_M_unknown_2 rfl ?_
  obtain ⟨r2, hc1, hyp⟩ := ab_bind hyp
  refine ab_callV (h' := lay M) 6 0 0 [.ref 3] [.int r2, .ref 3] d_M_unknown_3 ok_M_is lk_51 (c_M_is hc1) rfl rfl ?_
  refine ab_if_ne 13 9 d_M_unknown_6 (fun z3 => ?_) (fun z3 => ?_)
  · replace hyp := ab_neg z3 hyp
    refine ab_iconst 14 d_M_unknown_13 (0 : Int32) (by decide) ?_
    refine ab_pick [0, 1] [(0, _), (1, _)] rfl ?_
    exact q_M_unknown_c14 v1 (0 : Int32) M hyp
  · replace hyp := ab_pos z3 hyp
    refine ab_iconst 10 d_M_unknown_9 (1 : Int32) (by decide) ?_
    refine ab_goto 14 d_M_unknown_10 ?_
    refine ab_pick [0, 1] [(0, _), (1, _)] rfl ?_
    exact q_M_unknown_c14 v1 (1 : Int32) M hyp
/-! M_inHerd -/
def M_inHerd_b55 (rec55 : Int64 → Int32 → Me → Option (Int64 × Me)) (v2 : Int64) (v4 : Int32) (M : Me) : Option (Int64 × Me) :=
  if (gF M 5) ≤ v4 then (some (v2, M)) else (gd (inb v4 24) (if (gI M 16 v4) = (0 : Int32) then (gd (inb v4 24) (rec55 (v2 + (gL M 6 v4)) (v4 + (1 : Int32)) M)) else (rec55 v2 (v4 + (1 : Int32)) M)))
def M_inHerd_L55 : Nat → Int64 → Int32 → Me → Option (Int64 × Me)
  | 0, _, _, _ => none
  | F + 1, v2, v4, M => M_inHerd_b55 (M_inHerd_L55 F) v2 v4 M
def M_inHerd_c35 (v1 : Int32) (s0 : Int32) (s1 : Int32) (M : Me) : Option (Int64 × Me) :=
  Option.bind (M_refused M s1 s0 (0 : Int32) (0 : Int32)) (fun r2 => if r2.1 = (0 : Int32) then (Option.bind (M_fillShares r2.2 v1) (fun r5 => M_inHerd_L55 64 (0 : Int64) (0 : Int32) r5)) else (some ((0 : Int64), r2.2)))
def M_inHerd_c14 (v1 : Int32) (s0 : Int32) (M : Me) : Option (Int64 × Me) :=
  Option.bind (M_is M v1) (fun r2 => if r2 = (0 : Int32) then (M_inHerd_c35 v1 (0 : Int32) s0 M) else (Option.bind (M_isFounder M v1) (fun r5 => if r5 = (0 : Int32) then (M_inHerd_c35 v1 (1 : Int32) s0 M) else (M_inHerd_c35 v1 (0 : Int32) s0 M))))
def M_inHerd (M : Me) (v1 : Int32) : Option (Int64 × Me) :=
  Option.bind (M_is M v1) (fun r2 => if r2 = (0 : Int32) then (M_inHerd_c14 v1 (1 : Int32) M) else (M_inHerd_c14 v1 (0 : Int32) M))
def rm_M_inHerd : Room := { frames := 1, locals := 26, cells := 0, slots := 0 }
theorem q_M_inHerd_b55 {l : Launch} {D : va_G} {B : Nat} {ad : Nat → Nat} {r : Int64 × Me} (rec55 : Int64 → Int32 → Me → Option (Int64 × Me)) (hrec55 : ∀ (v2 : Int64) (v4 : Int32) (M : Me) , rec55 v2 v4 M = some r → ab_V (ab_km l D B ad y_M_inHerd rm_M_inHerd (.ok (some (.long r.1))) (lay r.2)) ad 55 [(0, .ref 3), (2, .long v2), (4, .int v4)] [] (lay M) 0 0) (v2 : Int64) (v4 : Int32) (M : Me) (hyp : M_inHerd_b55 rec55 v2 v4 M = some r) : ab_V (ab_km l D B ad y_M_inHerd rm_M_inHerd (.ok (some (.long r.1))) (lay r.2)) ad 55 [(0, .ref 3), (2, .long v2), (4, .int v4)] [] (lay M) 0 0 := by
  unfold M_inHerd_b55 at hyp
  refine ab_iload 57 d_M_inHerd_55 rfl ?_
  refine ab_aload_n 58 d_M_inHerd_57 rfl ?_
  refine ab_get 61 d_M_inHerd_58 fd_25 rfl rfl ?_
  refine ab_ic_ge 94 64 d_M_inHerd_61 (fun z1 => ?_) (fun z1 => ?_)
  · replace hyp := ab_pos z1 hyp
    refine ab_lload_n 95 d_M_inHerd_94 rfl ?_
    cases hyp
    exact ab_lreturn d_M_inHerd_95 rfl rfl rfl (Nat.le_of_ble_eq_true rfl) (Nat.le_of_ble_eq_true rfl)
  · replace hyp := ab_neg z1 hyp
    refine ab_aload_n 65 d_M_inHerd_64 rfl ?_
    refine ab_get 68 d_M_inHerd_65 fd_33 rfl rfl ?_
    refine ab_iload 70 d_M_inHerd_68 rfl ?_
    obtain ⟨g2, hyp⟩ := ab_gd hyp
    refine ab_zld 16 24 71 d_M_inHerd_70 rfl g2 ?_
    refine ab_if_eq 78 74 d_M_inHerd_71 (fun z3 => ?_) (fun z3 => ?_)
    · replace hyp := ab_pos z3 hyp
      refine ab_lload_n 79 d_M_inHerd_78 rfl ?_
      refine ab_aload_n 80 d_M_inHerd_79 rfl ?_
      refine ab_get 83 d_M_inHerd_80 fd_32 rfl rfl ?_
      refine ab_iload 85 d_M_inHerd_83 rfl ?_
      obtain ⟨g4, hyp⟩ := ab_gd hyp
      refine ab_lld 6 24 86 d_M_inHerd_85 rfl g4 ?_
      refine ab_ladd 87 d_M_inHerd_86 ?_
      refine ab_lstore_n 88 [(2, _), (0, _), (4, _)] d_M_inHerd_87 rfl ?_
      refine ab_iinc 91 [(4, _), (2, _), (0, _)] d_M_inHerd_88 (1 : Int32) (by decide) rfl rfl ?_
      refine ab_goto 55 d_M_inHerd_91 ?_
      refine ab_pick [2, 1, 0] [(0, _), (2, _), (4, _)] rfl ?_
      exact hrec55 (v2 + (gL M 6 v4)) (v4 + (1 : Int32)) M hyp
    · replace hyp := ab_neg z3 hyp
      refine ab_lload_n 75 d_M_inHerd_74 rfl ?_
      refine ab_goto 87 d_M_inHerd_75 ?_
      refine ab_lstore_n 88 [(2, _), (0, _), (4, _)] d_M_inHerd_87 rfl ?_
      refine ab_iinc 91 [(4, _), (2, _), (0, _)] d_M_inHerd_88 (1 : Int32) (by decide) rfl rfl ?_
      refine ab_goto 55 d_M_inHerd_91 ?_
      refine ab_pick [2, 1, 0] [(0, _), (2, _), (4, _)] rfl ?_
      exact hrec55 v2 (v4 + (1 : Int32)) M hyp
theorem q_M_inHerd_L55 {l : Launch} {D : va_G} {B : Nat} {ad : Nat → Nat} {r : Int64 × Me} : ∀ (F : Nat) (v2 : Int64) (v4 : Int32) (M : Me) , M_inHerd_L55 F v2 v4 M = some r → ab_V (ab_km l D B ad y_M_inHerd rm_M_inHerd (.ok (some (.long r.1))) (lay r.2)) ad 55 [(0, .ref 3), (2, .long v2), (4, .int v4)] [] (lay M) 0 0 := by
  intro F
  induction F with
  | zero =>
    intro v2 v4 M hyp
    have h2 : (none : Option (Int64 × Me)) = some r := hyp
    cases h2
  | succ F ih =>
    intro v2 v4 M hyp
    exact q_M_inHerd_b55 (M_inHerd_L55 F) ih v2 v4 M hyp
theorem q_M_inHerd_c35 {l : Launch} {D : va_G} {B : Nat} {ad : Nat → Nat} {r : Int64 × Me} (v1 : Int32) (s0 : Int32) (s1 : Int32) (M : Me) (hyp : M_inHerd_c35 v1 s0 s1 M = some r) : ab_V (ab_km l D B ad y_M_inHerd rm_M_inHerd (.ok (some (.long r.1))) (lay r.2)) ad 35 [(0, .ref 3), (1, .int v1)] [.int s0, .int s1, .ref 3] (lay M) 0 0 := by
  unfold M_inHerd_c35 at hyp
  refine ab_iconst 36 d_M_inHerd_35 (0 : Int32) (by decide) ?_
  refine ab_iconst 37 d_M_inHerd_36 (0 : Int32) (by decide) ?_
  obtain ⟨r2, hc1, hyp⟩ := ab_bind hyp
  refine ab_callV (h' := lay r2.2) 40 0 0 [] [.int r2.1] d_M_inHerd_37 ok_M_refused lk_55 (c_M_refused hc1) rfl rfl ?_
  refine ab_if_eq 45 43 d_M_inHerd_40 (fun z3 => ?_) (fun z3 => ?_)
  · replace hyp := ab_pos z3 hyp
    refine ab_aload_n 46 d_M_inHerd_45 rfl ?_
    refine ab_iload_n 47 d_M_inHerd_46 rfl ?_
    obtain ⟨r5, hc4, hyp⟩ := ab_bind hyp
    refine ab_callV (h' := lay r5) 50 0 0 [] [] d_M_inHerd_47 ok_M_fillShares lk_59 (c_M_fillShares hc4) rfl rfl ?_
    refine ab_lconst 51 d_M_inHerd_50 (0 : Int64) (by decide) ?_
    refine ab_lstore_n 52 [(2, _), (0, _), (1, _)] d_M_inHerd_51 rfl ?_
    refine ab_iconst 53 d_M_inHerd_52 (0 : Int32) (by decide) ?_
    refine ab_istore 55 [(4, _), (2, _), (0, _), (1, _)] d_M_inHerd_53 rfl ?_
    refine ab_pick [2, 1, 0] [(0, _), (2, _), (4, _)] rfl ?_
    exact q_M_inHerd_L55 64 (0 : Int64) (0 : Int32) r5 hyp
  · replace hyp := ab_neg z3 hyp
    refine ab_lconst 44 d_M_inHerd_43 (0 : Int64) (by decide) ?_
    cases hyp
    exact ab_lreturn d_M_inHerd_44 rfl rfl rfl (Nat.le_of_ble_eq_true rfl) (Nat.le_of_ble_eq_true rfl)
theorem q_M_inHerd_c14 {l : Launch} {D : va_G} {B : Nat} {ad : Nat → Nat} {r : Int64 × Me} (v1 : Int32) (s0 : Int32) (M : Me) (hyp : M_inHerd_c14 v1 s0 M = some r) : ab_V (ab_km l D B ad y_M_inHerd rm_M_inHerd (.ok (some (.long r.1))) (lay r.2)) ad 14 [(0, .ref 3), (1, .int v1)] [.int s0, .ref 3] (lay M) 0 0 := by
  unfold M_inHerd_c14 at hyp
  refine ab_aload_n 15 d_M_inHerd_14 rfl ?_
  refine ab_iload_n 16 d_M_inHerd_15 rfl ?_
  obtain ⟨r2, hc1, hyp⟩ := ab_bind hyp
  refine ab_callV (h' := lay M) 19 0 0 [.int s0, .ref 3] [.int r2, .int s0, .ref 3] d_M_inHerd_16 ok_M_is lk_51 (c_M_is hc1) rfl rfl ?_
  refine ab_if_eq 34 22 d_M_inHerd_19 (fun z3 => ?_) (fun z3 => ?_)
  · replace hyp := ab_pos z3 hyp
    refine ab_iconst 35 d_M_inHerd_34 (0 : Int32) (by decide) ?_
    refine ab_pick [0, 1] [(0, _), (1, _)] rfl ?_
    exact q_M_inHerd_c35 v1 (0 : Int32) s0 M hyp
  · replace hyp := ab_neg z3 hyp
    refine ab_aload_n 23 d_M_inHerd_22 rfl ?_
    refine ab_iload_n 24 d_M_inHerd_23 rfl ?_
    obtain ⟨r5, hc4, hyp⟩ := ab_bind hyp
    refine ab_callV (h' := lay M) 27 0 0 [.int s0, .ref 3] [.int r5, .int s0, .ref 3] d_M_inHerd_24 ok_M_isFounder lk_58 (c_M_isFounder hc4) rfl rfl ?_
    refine ab_if_ne 34 30 d_M_inHerd_27 (fun z6 => ?_) (fun z6 => ?_)
    · replace hyp := ab_neg z6 hyp
      refine ab_iconst 35 d_M_inHerd_34 (0 : Int32) (by decide) ?_
      refine ab_pick [0, 1] [(0, _), (1, _)] rfl ?_
      exact q_M_inHerd_c35 v1 (0 : Int32) s0 M hyp
    · replace hyp := ab_pos z6 hyp
      refine ab_iconst 31 d_M_inHerd_30 (1 : Int32) (by decide) ?_
      refine ab_goto 35 d_M_inHerd_31 ?_
      refine ab_pick [0, 1] [(0, _), (1, _)] rfl ?_
      exact q_M_inHerd_c35 v1 (1 : Int32) s0 M hyp
theorem c_M_inHerd {M : Me} {v1 : Int32} {r : Int64 × Me} (hyp : M_inHerd M v1 = some r) : ab_Met y_M_inHerd rm_M_inHerd [.ref 3, .int v1] (lay M) (.ok (some (.long r.1))) (lay r.2) := by
  refine ab_start rfl rfl (Nat.le_of_ble_eq_true rfl) (fun l D B ad => ?_)
  show ab_V _ ad 0 [(0, .ref 3), (1, .int v1)] [] _ 0 0
  unfold M_inHerd at hyp
  refine ab_aload_n 1 d_M_inHerd_0 rfl ?_
  refine ab_aload_n 2 d_M_inHerd_1 rfl ?_
  refine ab_iload_n 3 d_M_inHerd_2 rfl ?_
  obtain ⟨r2, hc1, hyp⟩ := ab_bind hyp
  refine ab_callV (h' := lay M) 6 0 0 [.ref 3] [.int r2, .ref 3] d_M_inHerd_3 ok_M_is lk_51 (c_M_is hc1) rfl rfl ?_
  refine ab_if_ne 13 9 d_M_inHerd_6 (fun z3 => ?_) (fun z3 => ?_)
  · replace hyp := ab_neg z3 hyp
    refine ab_iconst 14 d_M_inHerd_13 (0 : Int32) (by decide) ?_
    refine ab_pick [0, 1] [(0, _), (1, _)] rfl ?_
    exact q_M_inHerd_c14 v1 (0 : Int32) M hyp
  · replace hyp := ab_pos z3 hyp
    refine ab_iconst 10 d_M_inHerd_9 (1 : Int32) (by decide) ?_
    refine ab_goto 14 d_M_inHerd_10 ?_
    refine ab_pick [0, 1] [(0, _), (1, _)] rfl ?_
    exact q_M_inHerd_c14 v1 (1 : Int32) M hyp
/-! M_herd -/
def M_herd_b20 (rec9 : Int64 → Int32 → Me → Option (Int64 × Me)) (rec20 : Int64 → Int32 → Int32 → Me → Option (Int64 × Me)) (v1 : Int64) (v3 : Int32) (v4 : Int32) (M : Me) : Option (Int64 × Me) :=
  if v3 < v4 then (rec9 v1 (v3 + (1 : Int32)) M) else (gd (inb v4 24) (if (gI M 16 v4) = (0 : Int32) then (gd (inb v3 24) (if (gI M 16 v3) = (0 : Int32) then (Option.bind (M_kinOf M v4 v3) (fun r7 => rec20 (v1 + r7) v3 (v4 + (1 : Int32)) M)) else (rec20 v1 v3 (v4 + (1 : Int32)) M))) else (rec20 v1 v3 (v4 + (1 : Int32)) M)))
def M_herd_L20 (rec9 : Int64 → Int32 → Me → Option (Int64 × Me)) : Nat → Int64 → Int32 → Int32 → Me → Option (Int64 × Me)
  | 0, _, _, _, _ => none
  | F + 1, v1, v3, v4, M => M_herd_b20 rec9 (M_herd_L20 rec9 F) v1 v3 v4 M
def M_herd_b9 (rec9 : Int64 → Int32 → Me → Option (Int64 × Me)) (v1 : Int64) (v3 : Int32) (M : Me) : Option (Int64 × Me) :=
  if (gF M 5) ≤ v3 then (some (v1, M)) else (M_herd_L20 rec9 64 v1 v3 (0 : Int32) M)
def M_herd_L9 : Nat → Int64 → Int32 → Me → Option (Int64 × Me)
  | 0, _, _, _ => none
  | F + 1, v1, v3, M => M_herd_b9 (M_herd_L9 F) v1 v3 M
def M_herd (M : Me) : Option (Int64 × Me) :=
  M_herd_L9 64 (0 : Int64) (0 : Int32) (sF M 4 (0 : Int32))
def rm_M_herd : Room := { frames := 1, locals := 22, cells := 0, slots := 0 }
theorem q_M_herd_b20 {l : Launch} {D : va_G} {B : Nat} {ad : Nat → Nat} {r : Int64 × Me} (rec9 : Int64 → Int32 → Me → Option (Int64 × Me)) (hrec9 : ∀ (v1 : Int64) (v3 : Int32) (M : Me) , rec9 v1 v3 M = some r → ab_V (ab_km l D B ad y_M_herd rm_M_herd (.ok (some (.long r.1))) (lay r.2)) ad 9 [(0, .ref 3), (1, .long v1), (3, .int v3)] [] (lay M) 0 0) (rec20 : Int64 → Int32 → Int32 → Me → Option (Int64 × Me)) (hrec20 : ∀ (v1 : Int64) (v3 : Int32) (v4 : Int32) (M : Me) , rec20 v1 v3 v4 M = some r → ab_V (ab_km l D B ad y_M_herd rm_M_herd (.ok (some (.long r.1))) (lay r.2)) ad 20 [(0, .ref 3), (1, .long v1), (3, .int v3), (4, .int v4)] [] (lay M) 0 0) (v1 : Int64) (v3 : Int32) (v4 : Int32) (M : Me) (hyp : M_herd_b20 rec9 rec20 v1 v3 v4 M = some r) : ab_V (ab_km l D B ad y_M_herd rm_M_herd (.ok (some (.long r.1))) (lay r.2)) ad 20 [(0, .ref 3), (1, .long v1), (3, .int v3), (4, .int v4)] [] (lay M) 0 0 := by
  unfold M_herd_b20 at hyp
  refine ab_iload 22 d_M_herd_20 rfl ?_
  refine ab_iload_n 23 d_M_herd_22 rfl ?_
  refine ab_ic_gt 65 26 d_M_herd_23 (fun z1 => ?_) (fun z1 => ?_)
  · replace hyp := ab_pos z1 hyp
    refine ab_iinc 68 [(3, _), (0, _), (1, _), (4, _)] d_M_herd_65 (1 : Int32) (by decide) rfl rfl ?_
    refine ab_goto 9 d_M_herd_68 ?_
    refine ab_pick [1, 2, 0] [(0, _), (1, _), (3, _)] rfl ?_
    exact hrec9 v1 (v3 + (1 : Int32)) M hyp
  · replace hyp := ab_neg z1 hyp
    refine ab_aload_n 27 d_M_herd_26 rfl ?_
    refine ab_get 30 d_M_herd_27 fd_33 rfl rfl ?_
    refine ab_iload 32 d_M_herd_30 rfl ?_
    obtain ⟨g2, hyp⟩ := ab_gd hyp
    refine ab_zld 16 24 33 d_M_herd_32 rfl g2 ?_
    refine ab_if_ne 45 36 d_M_herd_33 (fun z3 => ?_) (fun z3 => ?_)
    · replace hyp := ab_neg z3 hyp
      refine ab_lload_n 46 d_M_herd_45 rfl ?_
      refine ab_goto 58 d_M_herd_46 ?_
      refine ab_lstore_n 59 [(1, _), (0, _), (3, _), (4, _)] d_M_herd_58 rfl ?_
      refine ab_iinc 62 [(4, _), (1, _), (0, _), (3, _)] d_M_herd_59 (1 : Int32) (by decide) rfl rfl ?_
      refine ab_goto 20 d_M_herd_62 ?_
      refine ab_pick [2, 1, 3, 0] [(0, _), (1, _), (3, _), (4, _)] rfl ?_
      exact hrec20 v1 v3 (v4 + (1 : Int32)) M hyp
    · replace hyp := ab_pos z3 hyp
      refine ab_aload_n 37 d_M_herd_36 rfl ?_
      refine ab_get 40 d_M_herd_37 fd_33 rfl rfl ?_
      refine ab_iload_n 41 d_M_herd_40 rfl ?_
      obtain ⟨g4, hyp⟩ := ab_gd hyp
      refine ab_zld 16 24 42 d_M_herd_41 rfl g4 ?_
      refine ab_if_eq 49 45 d_M_herd_42 (fun z5 => ?_) (fun z5 => ?_)
      · replace hyp := ab_pos z5 hyp
        refine ab_lload_n 50 d_M_herd_49 rfl ?_
        refine ab_aload_n 51 d_M_herd_50 rfl ?_
        refine ab_iload 53 d_M_herd_51 rfl ?_
        refine ab_iload_n 54 d_M_herd_53 rfl ?_
        obtain ⟨r7, hc6, hyp⟩ := ab_bind hyp
        refine ab_callV (h' := lay M) 57 0 0 [.long v1] [.long r7, .long v1] d_M_herd_54 ok_M_kinOf lk_52 (c_M_kinOf hc6) rfl rfl ?_
        refine ab_ladd 58 d_M_herd_57 ?_
        refine ab_lstore_n 59 [(1, _), (0, _), (3, _), (4, _)] d_M_herd_58 rfl ?_
        refine ab_iinc 62 [(4, _), (1, _), (0, _), (3, _)] d_M_herd_59 (1 : Int32) (by decide) rfl rfl ?_
        refine ab_goto 20 d_M_herd_62 ?_
        refine ab_pick [2, 1, 3, 0] [(0, _), (1, _), (3, _), (4, _)] rfl ?_
        exact hrec20 (v1 + r7) v3 (v4 + (1 : Int32)) M hyp
      · replace hyp := ab_neg z5 hyp
        refine ab_lload_n 46 d_M_herd_45 rfl ?_
        refine ab_goto 58 d_M_herd_46 ?_
        refine ab_lstore_n 59 [(1, _), (0, _), (3, _), (4, _)] d_M_herd_58 rfl ?_
        refine ab_iinc 62 [(4, _), (1, _), (0, _), (3, _)] d_M_herd_59 (1 : Int32) (by decide) rfl rfl ?_
        refine ab_goto 20 d_M_herd_62 ?_
        refine ab_pick [2, 1, 3, 0] [(0, _), (1, _), (3, _), (4, _)] rfl ?_
        exact hrec20 v1 v3 (v4 + (1 : Int32)) M hyp
theorem q_M_herd_L20 {l : Launch} {D : va_G} {B : Nat} {ad : Nat → Nat} {r : Int64 × Me} (rec9 : Int64 → Int32 → Me → Option (Int64 × Me)) (hrec9 : ∀ (v1 : Int64) (v3 : Int32) (M : Me) , rec9 v1 v3 M = some r → ab_V (ab_km l D B ad y_M_herd rm_M_herd (.ok (some (.long r.1))) (lay r.2)) ad 9 [(0, .ref 3), (1, .long v1), (3, .int v3)] [] (lay M) 0 0) : ∀ (F : Nat) (v1 : Int64) (v3 : Int32) (v4 : Int32) (M : Me) , M_herd_L20 rec9 F v1 v3 v4 M = some r → ab_V (ab_km l D B ad y_M_herd rm_M_herd (.ok (some (.long r.1))) (lay r.2)) ad 20 [(0, .ref 3), (1, .long v1), (3, .int v3), (4, .int v4)] [] (lay M) 0 0 := by
  intro F
  induction F with
  | zero =>
    intro v1 v3 v4 M hyp
    have h2 : (none : Option (Int64 × Me)) = some r := hyp
    cases h2
  | succ F ih =>
    intro v1 v3 v4 M hyp
    exact q_M_herd_b20 rec9 hrec9 (M_herd_L20 rec9 F) ih v1 v3 v4 M hyp
theorem q_M_herd_b9 {l : Launch} {D : va_G} {B : Nat} {ad : Nat → Nat} {r : Int64 × Me} (rec9 : Int64 → Int32 → Me → Option (Int64 × Me)) (hrec9 : ∀ (v1 : Int64) (v3 : Int32) (M : Me) , rec9 v1 v3 M = some r → ab_V (ab_km l D B ad y_M_herd rm_M_herd (.ok (some (.long r.1))) (lay r.2)) ad 9 [(0, .ref 3), (1, .long v1), (3, .int v3)] [] (lay M) 0 0) (v1 : Int64) (v3 : Int32) (M : Me) (hyp : M_herd_b9 rec9 v1 v3 M = some r) : ab_V (ab_km l D B ad y_M_herd rm_M_herd (.ok (some (.long r.1))) (lay r.2)) ad 9 [(0, .ref 3), (1, .long v1), (3, .int v3)] [] (lay M) 0 0 := by
  unfold M_herd_b9 at hyp
  refine ab_iload_n 10 d_M_herd_9 rfl ?_
  refine ab_aload_n 11 d_M_herd_10 rfl ?_
  refine ab_get 14 d_M_herd_11 fd_25 rfl rfl ?_
  refine ab_ic_ge 71 17 d_M_herd_14 (fun z1 => ?_) (fun z1 => ?_)
  · replace hyp := ab_pos z1 hyp
    refine ab_lload_n 72 d_M_herd_71 rfl ?_
    cases hyp
    exact ab_lreturn d_M_herd_72 rfl rfl rfl (Nat.le_of_ble_eq_true rfl) (Nat.le_of_ble_eq_true rfl)
  · replace hyp := ab_neg z1 hyp
    refine ab_iconst 18 d_M_herd_17 (0 : Int32) (by decide) ?_
    refine ab_istore 20 [(4, _), (0, _), (1, _), (3, _)] d_M_herd_18 rfl ?_
    refine ab_pick [1, 2, 3, 0] [(0, _), (1, _), (3, _), (4, _)] rfl ?_
    exact q_M_herd_L20 rec9 hrec9 64 v1 v3 (0 : Int32) M hyp
theorem q_M_herd_L9 {l : Launch} {D : va_G} {B : Nat} {ad : Nat → Nat} {r : Int64 × Me} : ∀ (F : Nat) (v1 : Int64) (v3 : Int32) (M : Me) , M_herd_L9 F v1 v3 M = some r → ab_V (ab_km l D B ad y_M_herd rm_M_herd (.ok (some (.long r.1))) (lay r.2)) ad 9 [(0, .ref 3), (1, .long v1), (3, .int v3)] [] (lay M) 0 0 := by
  intro F
  induction F with
  | zero =>
    intro v1 v3 M hyp
    have h2 : (none : Option (Int64 × Me)) = some r := hyp
    cases h2
  | succ F ih =>
    intro v1 v3 M hyp
    exact q_M_herd_b9 (M_herd_L9 F) ih v1 v3 M hyp
theorem c_M_herd {M : Me} {r : Int64 × Me} (hyp : M_herd M = some r) : ab_Met y_M_herd rm_M_herd [.ref 3] (lay M) (.ok (some (.long r.1))) (lay r.2) := by
  refine ab_start rfl rfl (Nat.le_of_ble_eq_true rfl) (fun l D B ad => ?_)
  show ab_V _ ad 0 [(0, .ref 3)] [] _ 0 0
  unfold M_herd at hyp
  refine ab_aload_n 1 d_M_herd_0 rfl ?_
  refine ab_iconst 2 d_M_herd_1 (0 : Int32) (by decide) ?_
  refine ab_puti 5 d_M_herd_2 fw_5 rfl (lay_F4 _ _) ?_
  refine ab_lconst 6 d_M_herd_5 (0 : Int64) (by decide) ?_
  refine ab_lstore_n 7 [(1, _), (0, _)] d_M_herd_6 rfl ?_
  refine ab_iconst 8 d_M_herd_7 (0 : Int32) (by decide) ?_
  refine ab_istore_n 9 [(3, _), (1, _), (0, _)] d_M_herd_8 rfl ?_
  refine ab_pick [2, 1, 0] [(0, _), (1, _), (3, _)] rfl ?_
  exact q_M_herd_L9 64 (0 : Int64) (0 : Int32) (sF M 4 (0 : Int32)) hyp
