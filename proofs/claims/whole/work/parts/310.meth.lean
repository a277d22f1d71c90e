/-! M_linesOf -/
def M_linesOf_c60 (rec2 : Int32 → Int32 → Int32 → Me → Option (Int32 × Me)) (v1 : Int32) (v2 : Int32) (v3 : Int32) (v4 : Int32) (s0 : Int32) (M : Me) : Option (Int32 × Me) :=
  if v3 = v1 then (gd (inb v3 24) (rec2 v1 v2 (v3 + (1 : Int32)) (sI M 18 v3 (1 : Int32)))) else (gd (inb v3 24) (rec2 v1 v2 (v3 + (1 : Int32)) (sI M 18 v3 (v4 + s0))))
def M_linesOf_c34 (rec2 : Int32 → Int32 → Int32 → Me → Option (Int32 × Me)) (v1 : Int32) (v2 : Int32) (v3 : Int32) (s0 : Int32) (M : Me) : Option (Int32 × Me) :=
  gd (inb v3 24) (if (0 : Int32) ≤ (gI M 13 v3) then (gd (inb v3 24) (gd (inb (gI M 13 v3) 24) (M_linesOf_c60 rec2 v1 v2 v3 s0 (gI M 18 (gI M 13 v3)) M))) else (M_linesOf_c60 rec2 v1 v2 v3 s0 (0 : Int32) M))
def M_linesOf_b2 (rec2 : Int32 → Int32 → Int32 → Me → Option (Int32 × Me)) (v1 : Int32) (v2 : Int32) (v3 : Int32) (M : Me) : Option (Int32 × Me) :=
  if (gF M 5) ≤ v3 then (gd (inb v2 24) (some ((gI M 18 v2), M))) else (gd (inb v3 24) (if (0 : Int32) ≤ (gI M 12 v3) then (gd (inb v3 24) (gd (inb (gI M 12 v3) 24) (M_linesOf_c34 rec2 v1 v2 v3 (gI M 18 (gI M 12 v3)) M))) else (M_linesOf_c34 rec2 v1 v2 v3 (0 : Int32) M)))
def M_linesOf_L2 : Nat → Int32 → Int32 → Int32 → Me → Option (Int32 × Me)
  | 0, _, _, _, _ => none
  | F + 1, v1, v2, v3, M => M_linesOf_b2 (M_linesOf_L2 F) v1 v2 v3 M
def M_linesOf (M : Me) (v1 : Int32) (v2 : Int32) : Option (Int32 × Me) :=
  M_linesOf_L2 64 v1 v2 (0 : Int32) M
def rm_M_linesOf : Room := { frames := 0, locals := 0, cells := 0, slots := 0 }
theorem q_M_linesOf_c60 {l : Launch} {D : va_G} {B : Nat} {ad : Nat → Nat} {r : Int32 × Me} (rec2 : Int32 → Int32 → Int32 → Me → Option (Int32 × Me)) (hrec2 : ∀ (v1 : Int32) (v2 : Int32) (v3 : Int32) (M : Me) , rec2 v1 v2 v3 M = some r → ab_V (ab_km l D B ad y_M_linesOf rm_M_linesOf (.ok (some (.int r.1))) (lay r.2)) ad 2 [(0, .ref 3), (1, .int v1), (2, .int v2), (3, .int v3)] [] (lay M) 0 0) (v1 : Int32) (v2 : Int32) (v3 : Int32) (v4 : Int32) (s0 : Int32) (M : Me) (hyp : M_linesOf_c60 rec2 v1 v2 v3 v4 s0 M = some r) : ab_V (ab_km l D B ad y_M_linesOf rm_M_linesOf (.ok (some (.int r.1))) (lay r.2)) ad 60 [(0, .ref 3), (1, .int v1), (2, .int v2), (3, .int v3), (4, .int v4)] [.int s0] (lay M) 0 0 := by
  unfold M_linesOf_c60 at hyp
  refine ab_istore 62 [(5, _), (0, _), (1, _), (2, _), (3, _), (4, _)] d_M_linesOf_60 rfl ?_
  refine ab_aload_n 63 d_M_linesOf_62 rfl ?_
  refine ab_get 66 d_M_linesOf_63 fd_35 rfl rfl ?_
  refine ab_iload_n 67 d_M_linesOf_66 rfl ?_
  refine ab_iload_n 68 d_M_linesOf_67 rfl ?_
  refine ab_iload_n 69 d_M_linesOf_68 rfl ?_
  refine ab_ic_ne 76 72 d_M_linesOf_69 (fun z1 => ?_) (fun z1 => ?_)
  · replace hyp := ab_neg z1 hyp
    refine ab_iload 78 d_M_linesOf_76 rfl ?_
    refine ab_iload 80 d_M_linesOf_78 rfl ?_
    refine ab_iadd 81 d_M_linesOf_80 ?_
    obtain ⟨g2, hyp⟩ := ab_gd hyp
    refine ab_ist 18 24 82 d_M_linesOf_81 rfl g2 lay_I18 ?_
    refine ab_iinc 85 [(3, _), (5, _), (0, _), (1, _), (2, _), (4, _)] d_M_linesOf_82 (1 : Int32) (by decide) rfl rfl ?_
    refine ab_goto 2 d_M_linesOf_85 ?_
    refine ab_pick [2, 3, 4, 0] [(0, _), (1, _), (2, _), (3, _)] rfl ?_
    exact hrec2 v1 v2 (v3 + (1 : Int32)) (sI M 18 v3 (v4 + s0)) hyp
  · replace hyp := ab_pos z1 hyp
    refine ab_iconst 73 d_M_linesOf_72 (1 : Int32) (by decide) ?_
    refine ab_goto 81 d_M_linesOf_73 ?_
    obtain ⟨g3, hyp⟩ := ab_gd hyp
    refine ab_ist 18 24 82 d_M_linesOf_81 rfl g3 lay_I18 ?_
    refine ab_iinc 85 [(3, _), (5, _), (0, _), (1, _), (2, _), (4, _)] d_M_linesOf_82 (1 : Int32) (by decide) rfl rfl ?_
    refine ab_goto 2 d_M_linesOf_85 ?_
    refine ab_pick [2, 3, 4, 0] [(0, _), (1, _), (2, _), (3, _)] rfl ?_
    exact hrec2 v1 v2 (v3 + (1 : Int32)) (sI M 18 v3 (1 : Int32)) hyp
theorem q_M_linesOf_c34 {l : Launch} {D : va_G} {B : Nat} {ad : Nat → Nat} {r : Int32 × Me} (rec2 : Int32 → Int32 → Int32 → Me → Option (Int32 × Me)) (hrec2 : ∀ (v1 : Int32) (v2 : Int32) (v3 : Int32) (M : Me) , rec2 v1 v2 v3 M = some r → ab_V (ab_km l D B ad y_M_linesOf rm_M_linesOf (.ok (some (.int r.1))) (lay r.2)) ad 2 [(0, .ref 3), (1, .int v1), (2, .int v2), (3, .int v3)] [] (lay M) 0 0) (v1 : Int32) (v2 : Int32) (v3 : Int32) (s0 : Int32) (M : Me) (hyp : M_linesOf_c34 rec2 v1 v2 v3 s0 M = some r) : ab_V (ab_km l D B ad y_M_linesOf rm_M_linesOf (.ok (some (.int r.1))) (lay r.2)) ad 34 [(0, .ref 3), (1, .int v1), (2, .int v2), (3, .int v3)] [.int s0] (lay M) 0 0 := by
  unfold M_linesOf_c34 at hyp
  refine ab_istore 36 [(4, _), (0, _), (1, _), (2, _), (3, _)] d_M_linesOf_34 rfl ?_
  refine ab_aload_n 37 d_M_linesOf_36 rfl ?_
  refine ab_get 40 d_M_linesOf_37 fd_31 rfl rfl ?_
  refine ab_iload_n 41 d_M_linesOf_40 rfl ?_
  obtain ⟨g1, hyp⟩ := ab_gd hyp
  refine ab_ild 13 24 42 d_M_linesOf_41 rfl g1 ?_
  refine ab_if_ge 49 45 d_M_linesOf_42 (fun z2 => ?_) (fun z2 => ?_)
  · replace hyp := ab_pos z2 hyp
    refine ab_aload_n 50 d_M_linesOf_49 rfl ?_
    refine ab_get 53 d_M_linesOf_50 fd_35 rfl rfl ?_
    refine ab_aload_n 54 d_M_linesOf_53 rfl ?_
    refine ab_get 57 d_M_linesOf_54 fd_31 rfl rfl ?_
    refine ab_iload_n 58 d_M_linesOf_57 rfl ?_
    obtain ⟨g3, hyp⟩ := ab_gd hyp
    refine ab_ild 13 24 59 d_M_linesOf_58 rfl g3 ?_
    obtain ⟨g4, hyp⟩ := ab_gd hyp
    refine ab_ild 18 24 60 d_M_linesOf_59 rfl g4 ?_
    refine ab_pick [1, 2, 3, 4, 0] [(0, _), (1, _), (2, _), (3, _), (4, _)] rfl ?_
    exact q_M_linesOf_c60 rec2 hrec2 v1 v2 v3 s0 (gI M 18 (gI M 13 v3)) M hyp
  · replace hyp := ab_neg z2 hyp
    refine ab_iconst 46 d_M_linesOf_45 (0 : Int32) (by decide) ?_
    refine ab_goto 60 d_M_linesOf_46 ?_
    refine ab_pick [1, 2, 3, 4, 0] [(0, _), (1, _), (2, _), (3, _), (4, _)] rfl ?_
    exact q_M_linesOf_c60 rec2 hrec2 v1 v2 v3 s0 (0 : Int32) M hyp
theorem q_M_linesOf_b2 {l : Launch} {D : va_G} {B : Nat} {ad : Nat → Nat} {r : Int32 × Me} (rec2 : Int32 → Int32 → Int32 → Me → Option (Int32 × Me)) (hrec2 : ∀ (v1 : Int32) (v2 : Int32) (v3 : Int32) (M : Me) , rec2 v1 v2 v3 M = some r → ab_V (ab_km l D B ad y_M_linesOf rm_M_linesOf (.ok (some (.int r.1))) (lay r.2)) ad 2 [(0, .ref 3), (1, .int v1), (2, .int v2), (3, .int v3)] [] (lay M) 0 0) (v1 : Int32) (v2 : Int32) (v3 : Int32) (M : Me) (hyp : M_linesOf_b2 rec2 v1 v2 v3 M = some r) : ab_V (ab_km l D B ad y_M_linesOf rm_M_linesOf (.ok (some (.int r.1))) (lay r.2)) ad 2 [(0, .ref 3), (1, .int v1), (2, .int v2), (3, .int v3)] [] (lay M) 0 0 := by
  unfold M_linesOf_b2 at hyp
  refine ab_iload_n 3 d_M_linesOf_2 rfl ?_
  refine ab_aload_n 4 d_M_linesOf_3 rfl ?_
  refine ab_get 7 d_M_linesOf_4 fd_25 rfl rfl ?_
  refine ab_ic_ge 88 10 d_M_linesOf_7 (fun z1 => ?_) (fun z1 => ?_)
  · replace hyp := ab_pos z1 hyp
    refine ab_aload_n 89 d_M_linesOf_88 rfl ?_
    refine ab_get 92 d_M_linesOf_89 fd_35 rfl rfl ?_
    refine ab_iload_n 93 d_M_linesOf_92 rfl ?_
    obtain ⟨g2, hyp⟩ := ab_gd hyp
    refine ab_ild 18 24 94 d_M_linesOf_93 rfl g2 ?_
    cases hyp
    exact ab_ireturn d_M_linesOf_94 rfl rfl rfl (Nat.le_of_ble_eq_true rfl) (Nat.le_of_ble_eq_true rfl)
  · replace hyp := ab_neg z1 hyp
    refine ab_aload_n 11 d_M_linesOf_10 rfl ?_
    refine ab_get 14 d_M_linesOf_11 fd_30 rfl rfl ?_
    refine ab_iload_n 15 d_M_linesOf_14 rfl ?_
    obtain ⟨g3, hyp⟩ := ab_gd hyp
    refine ab_ild 12 24 16 d_M_linesOf_15 rfl g3 ?_
    refine ab_if_ge 23 19 d_M_linesOf_16 (fun z4 => ?_) (fun z4 => ?_)
    · replace hyp := ab_pos z4 hyp
      refine ab_aload_n 24 d_M_linesOf_23 rfl ?_
      refine ab_get 27 d_M_linesOf_24 fd_35 rfl rfl ?_
      refine ab_aload_n 28 d_M_linesOf_27 rfl ?_
      refine ab_get 31 d_M_linesOf_28 fd_30 rfl rfl ?_
      refine ab_iload_n 32 d_M_linesOf_31 rfl ?_
      obtain ⟨g5, hyp⟩ := ab_gd hyp
      refine ab_ild 12 24 33 d_M_linesOf_32 rfl g5 ?_
      obtain ⟨g6, hyp⟩ := ab_gd hyp
      refine ab_ild 18 24 34 d_M_linesOf_33 rfl g6 ?_
      refine ab_pick [0, 1, 2, 3] [(0, _), (1, _), (2, _), (3, _)] rfl ?_
      exact q_M_linesOf_c34 rec2 hrec2 v1 v2 v3 (gI M 18 (gI M 12 v3)) M hyp
    · replace hyp := ab_neg z4 hyp
      refine ab_iconst 20 d_M_linesOf_19 (0 : Int32) (by decide) ?_
      refine ab_goto 34 d_M_linesOf_20 ?_
      refine ab_pick [0, 1, 2, 3] [(0, _), (1, _), (2, _), (3, _)] rfl ?_
      exact q_M_linesOf_c34 rec2 hrec2 v1 v2 v3 (0 : Int32) M hyp
theorem q_M_linesOf_L2 {l : Launch} {D : va_G} {B : Nat} {ad : Nat → Nat} {r : Int32 × Me} : ∀ (F : Nat) (v1 : Int32) (v2 : Int32) (v3 : Int32) (M : Me) , M_linesOf_L2 F v1 v2 v3 M = some r → ab_V (ab_km l D B ad y_M_linesOf rm_M_linesOf (.ok (some (.int r.1))) (lay r.2)) ad 2 [(0, .ref 3), (1, .int v1), (2, .int v2), (3, .int v3)] [] (lay M) 0 0 := by
  intro F
  induction F with
  | zero =>
    intro v1 v2 v3 M hyp
    have h2 : (none : Option (Int32 × Me)) = some r := hyp
    cases h2
  | succ F ih =>
    intro v1 v2 v3 M hyp
    exact q_M_linesOf_b2 (M_linesOf_L2 F) ih v1 v2 v3 M hyp
theorem c_M_linesOf {M : Me} {v1 : Int32} {v2 : Int32} {r : Int32 × Me} (hyp : M_linesOf M v1 v2 = some r) : ab_Met y_M_linesOf rm_M_linesOf [.ref 3, .int v1, .int v2] (lay M) (.ok (some (.int r.1))) (lay r.2) := by
  refine ab_start rfl rfl (Nat.le_of_ble_eq_true rfl) (fun l D B ad => ?_)
  show ab_V _ ad 0 [(0, .ref 3), (1, .int v1), (2, .int v2)] [] _ 0 0
  unfold M_linesOf at hyp
  refine ab_iconst 1 d_M_linesOf_0 (0 : Int32) (by decide) ?_
  refine ab_istore_n 2 [(3, _), (0, _), (1, _), (2, _)] d_M_linesOf_1 rfl ?_
  refine ab_pick [1, 2, 3, 0] [(0, _), (1, _), (2, _), (3, _)] rfl ?_
  exact q_M_linesOf_L2 64 v1 v2 (0 : Int32) M hyp
/-! M_ancestorsOf -/
def M_ancestorsOf_b4 (rec4 : Int32 → Int32 → Int32 → Me → Option (Int32 × Me)) (v1 : Int32) (v2 : Int32) (v3 : Int32) (M : Me) : Option (Int32 × Me) :=
  if (gF M 5) ≤ v3 then (some (v2, M)) else (if v3 = v1 then (rec4 v1 v2 (v3 + (1 : Int32)) M) else (Option.bind (M_linesOf M v3 v1) (fun r4 => if r4.1 ≤ (0 : Int32) then (rec4 v1 v2 (v3 + (1 : Int32)) r4.2) else (rec4 v1 (v2 ||| ((1 : Int32) <<< (v3 &&& 31))) (v3 + (1 : Int32)) r4.2))))
def M_ancestorsOf_L4 : Nat → Int32 → Int32 → Int32 → Me → Option (Int32 × Me)
  | 0, _, _, _, _ => none
  | F + 1, v1, v2, v3, M => M_ancestorsOf_b4 (M_ancestorsOf_L4 F) v1 v2 v3 M
def M_ancestorsOf (M : Me) (v1 : Int32) : Option (Int32 × Me) :=
  M_ancestorsOf_L4 64 v1 (0 : Int32) (0 : Int32) M
def rm_M_ancestorsOf : Room := { frames := 1, locals := 25, cells := 0, slots := 0 }
theorem q_M_ancestorsOf_b4 {l : Launch} {D : va_G} {B : Nat} {ad : Nat → Nat} {r : Int32 × Me} (rec4 : Int32 → Int32 → Int32 → Me → Option (Int32 × Me)) (hrec4 : ∀ (v1 : Int32) (v2 : Int32) (v3 : Int32) (M : Me) , rec4 v1 v2 v3 M = some r → ab_V (ab_km l D B ad y_M_ancestorsOf rm_M_ancestorsOf (.ok (some (.int r.1))) (lay r.2)) ad 4 [(0, .ref 3), (1, .int v1), (2, .int v2), (3, .int v3)] [] (lay M) 0 0) (v1 : Int32) (v2 : Int32) (v3 : Int32) (M : Me) (hyp : M_ancestorsOf_b4 rec4 v1 v2 v3 M = some r) : ab_V (ab_km l D B ad y_M_ancestorsOf rm_M_ancestorsOf (.ok (some (.int r.1))) (lay r.2)) ad 4 [(0, .ref 3), (1, .int v1), (2, .int v2), (3, .int v3)] [] (lay M) 0 0 := by
  unfold M_ancestorsOf_b4 at hyp
  refine ab_iload_n 5 d_M_ancestorsOf_4 rfl ?_
  refine ab_aload_n 6 d_M_ancestorsOf_5 rfl ?_
  refine ab_get 9 d_M_ancestorsOf_6 fd_25 rfl rfl ?_
  refine ab_ic_ge 42 12 d_M_ancestorsOf_9 (fun z1 => ?_) (fun z1 => ?_)
  · replace hyp := ab_pos z1 hyp
    refine ab_iload_n 43 d_M_ancestorsOf_42 rfl ?_
    cases hyp
    exact ab_ireturn d_M_ancestorsOf_43 rfl rfl rfl (Nat.le_of_ble_eq_true rfl) (Nat.le_of_ble_eq_true rfl)
  · replace hyp := ab_neg z1 hyp
    refine ab_iload_n 13 d_M_ancestorsOf_12 rfl ?_
    refine ab_iload_n 14 d_M_ancestorsOf_13 rfl ?_
    refine ab_ic_eq 34 17 d_M_ancestorsOf_14 (fun z2 => ?_) (fun z2 => ?_)
    · replace hyp := ab_pos z2 hyp
      refine ab_iload_n 35 d_M_ancestorsOf_34 rfl ?_
      refine ab_istore_n 36 [(2, _), (0, _), (1, _), (3, _)] d_M_ancestorsOf_35 rfl ?_
      refine ab_iinc 39 [(3, _), (2, _), (0, _), (1, _)] d_M_ancestorsOf_36 (1 : Int32) (by decide) rfl rfl ?_
      refine ab_goto 4 d_M_ancestorsOf_39 ?_
      refine ab_pick [2, 3, 1, 0] [(0, _), (1, _), (2, _), (3, _)] rfl ?_
      exact hrec4 v1 v2 (v3 + (1 : Int32)) M hyp
    · replace hyp := ab_neg z2 hyp
      refine ab_aload_n 18 d_M_ancestorsOf_17 rfl ?_
      refine ab_iload_n 19 d_M_ancestorsOf_18 rfl ?_
      refine ab_iload_n 20 d_M_ancestorsOf_19 rfl ?_
      obtain ⟨r4, hc3, hyp⟩ := ab_bind hyp
      refine ab_callV (h' := lay r4.2) 23 0 0 [] [.int r4.1] d_M_ancestorsOf_20 ok_M_linesOf lk_60 (c_M_linesOf hc3) rfl rfl ?_
      refine ab_if_le 34 26 d_M_ancestorsOf_23 (fun z5 => ?_) (fun z5 => ?_)
      · replace hyp := ab_pos z5 hyp
        refine ab_iload_n 35 d_M_ancestorsOf_34 rfl ?_
        refine ab_istore_n 36 [(2, _), (0, _), (1, _), (3, _)] d_M_ancestorsOf_35 rfl ?_
        refine ab_iinc 39 [(3, _), (2, _), (0, _), (1, _)] d_M_ancestorsOf_36 (1 : Int32) (by decide) rfl rfl ?_
        refine ab_goto 4 d_M_ancestorsOf_39 ?_
        refine ab_pick [2, 3, 1, 0] [(0, _), (1, _), (2, _), (3, _)] rfl ?_
        exact hrec4 v1 v2 (v3 + (1 : Int32)) r4.2 hyp
      · replace hyp := ab_neg z5 hyp
        refine ab_iload_n 27 d_M_ancestorsOf_26 rfl ?_
        refine ab_iconst 28 d_M_ancestorsOf_27 (1 : Int32) (by decide) ?_
        refine ab_iload_n 29 d_M_ancestorsOf_28 rfl ?_
        refine ab_ishl 30 d_M_ancestorsOf_29 ?_
        refine ab_ior 31 d_M_ancestorsOf_30 ?_
        refine ab_goto 35 d_M_ancestorsOf_31 ?_
        refine ab_istore_n 36 [(2, _), (0, _), (1, _), (3, _)] d_M_ancestorsOf_35 rfl ?_
        refine ab_iinc 39 [(3, _), (2, _), (0, _), (1, _)] d_M_ancestorsOf_36 (1 : Int32) (by decide) rfl rfl ?_
        refine ab_goto 4 d_M_ancestorsOf_39 ?_
        refine ab_pick [2, 3, 1, 0] [(0, _), (1, _), (2, _), (3, _)] rfl ?_
        exact hrec4 v1 (v2 ||| ((1 : Int32) <<< (v3 &&& 31))) (v3 + (1 : Int32)) r4.2 hyp
theorem q_M_ancestorsOf_L4 {l : Launch} {D : va_G} {B : Nat} {ad : Nat → Nat} {r : Int32 × Me} : ∀ (F : Nat) (v1 : Int32) (v2 : Int32) (v3 : Int32) (M : Me) , M_ancestorsOf_L4 F v1 v2 v3 M = some r → ab_V (ab_km l D B ad y_M_ancestorsOf rm_M_ancestorsOf (.ok (some (.int r.1))) (lay r.2)) ad 4 [(0, .ref 3), (1, .int v1), (2, .int v2), (3, .int v3)] [] (lay M) 0 0 := by
  intro F
  induction F with
  | zero =>
    intro v1 v2 v3 M hyp
    have h2 : (none : Option (Int32 × Me)) = some r := hyp
    cases h2
  | succ F ih =>
    intro v1 v2 v3 M hyp
    exact q_M_ancestorsOf_b4 (M_ancestorsOf_L4 F) ih v1 v2 v3 M hyp
theorem c_M_ancestorsOf {M : Me} {v1 : Int32} {r : Int32 × Me} (hyp : M_ancestorsOf M v1 = some r) : ab_Met y_M_ancestorsOf rm_M_ancestorsOf [.ref 3, .int v1] (lay M) (.ok (some (.int r.1))) (lay r.2) := by
  refine ab_start rfl rfl (Nat.le_of_ble_eq_true rfl) (fun l D B ad => ?_)
  show ab_V _ ad 0 [(0, .ref 3), (1, .int v1)] [] _ 0 0
  unfold M_ancestorsOf at hyp
  refine ab_iconst 1 d_M_ancestorsOf_0 (0 : Int32) (by decide) ?_
  refine ab_istore_n 2 [(2, _), (0, _), (1, _)] d_M_ancestorsOf_1 rfl ?_
  refine ab_iconst 3 d_M_ancestorsOf_2 (0 : Int32) (by decide) ?_
  refine ab_istore_n 4 [(3, _), (2, _), (0, _), (1, _)] d_M_ancestorsOf_3 rfl ?_
  refine ab_pick [2, 3, 1, 0] [(0, _), (1, _), (2, _), (3, _)] rfl ?_
  exact q_M_ancestorsOf_L4 64 v1 (0 : Int32) (0 : Int32) M hyp
/-! M_ancestors -/
def M_ancestors_c14 (v1 : Int32) (s0 : Int32) (M : Me) : Option (Int32 × Me) :=
  Option.bind (M_refused M s0 (0 : Int32) (0 : Int32) (0 : Int32)) (fun r2 => if r2.1 = (0 : Int32) then (Option.bind (M_ancestorsOf r2.2 v1) (fun r5 => some (r5.1, r5.2))) else (some ((0 : Int32), r2.2)))
def M_ancestors (M : Me) (v1 : Int32) : Option (Int32 × Me) :=
  Option.bind (M_is M v1) (fun r2 => if r2 = (0 : Int32) then (M_ancestors_c14 v1 (1 : Int32) M) else (M_ancestors_c14 v1 (0 : Int32) M))
def rm_M_ancestors : Room := { frames := 2, locals := 48, cells := 0, slots := 0 }
theorem q_M_ancestors_c14 {l : Launch} {D : va_G} {B : Nat} {ad : Nat → Nat} {r : Int32 × Me} (v1 : Int32) (s0 : Int32) (M : Me) (hyp : M_ancestors_c14 v1 s0 M = some r) : ab_V (ab_km l D B ad y_M_ancestors rm_M_ancestors (.ok (some (.int r.1))) (lay r.2)) ad 14 [(0, .ref 3), (1, .int v1)] [.int s0, .ref 3] (lay M) 0 0 := by
  unfold M_ancestors_c14 at hyp
  refine ab_iconst 15 d_M_ancestors_14 (0 : Int32) (by decide) ?_
  refine ab_iconst 16 d_M_ancestors_15 (0 : Int32) (by decide) ?_
  refine ab_iconst 17 d_M_ancestors_16 (0 : Int32) (by decide) ?_
  obtain ⟨r2, hc1, hyp⟩ := ab_bind hyp
  refine ab_callV (h' := lay r2.2) 20 0 0 [] [.int r2.1] d_M_ancestors_17 ok_M_refused lk_55 (c_M_refused hc1) rfl rfl ?_
  refine ab_if_eq 27 23 d_M_ancestors_20 (fun z3 => ?_) (fun z3 => ?_)
  · replace hyp := ab_pos z3 hyp
    refine ab_aload_n 28 d_M_ancestors_27 rfl ?_
    refine ab_iload_n 29 d_M_ancestors_28 rfl ?_
    obtain ⟨r5, hc4, hyp⟩ := ab_bind hyp
    refine ab_callV (h' := lay r5.2) 32 0 0 [] [.int r5.1] d_M_ancestors_29 ok_M_ancestorsOf lk_61 (c_M_ancestorsOf hc4) rfl rfl ?_
    cases hyp
    exact ab_ireturn d_M_ancestors_32 rfl rfl rfl (Nat.le_of_ble_eq_true rfl) (Nat.le_of_ble_eq_true rfl)
  · replace hyp := ab_neg z3 hyp
    refine ab_iconst 24 d_M_ancestors_23 (0 : Int32) (by decide) ?_
    refine ab_goto 32 d_M_ancestors_24 ?_
    cases hyp
    exact ab_ireturn d_M_ancestors_32 rfl rfl rfl (Nat.le_of_ble_eq_true rfl) (Nat.le_of_ble_eq_true rfl)
theorem c_M_ancestors {M : Me} {v1 : Int32} {r : Int32 × Me} (hyp : M_ancestors M v1 = some r) : ab_Met y_M_ancestors rm_M_ancestors [.ref 3, .int v1] (lay M) (.ok (some (.int r.1))) (lay r.2) := by
  refine ab_start rfl rfl (Nat.le_of_ble_eq_true rfl) (fun l D B ad => ?_)
  show ab_V _ ad 0 [(0, .ref 3), (1, .int v1)] [] _ 0 0
  unfold M_ancestors at hyp
  refine ab_aload_n 1 d_M_ancestors_0 rfl ?_
  refine ab_aload_n 2 d_M_ancestors_1 rfl ?_
  refine ab_iload_n 3 d_M_ancestors_2 rfl ?_
  obtain ⟨r2, hc1, hyp⟩ := ab_bind hyp
  refine ab_callV (h' := lay M) 6 0 0 [.ref 3] [.int r2, .ref 3] d_M_ancestors_3 ok_M_is lk_51 (c_M_is hc1) rfl rfl ?_
  refine ab_if_ne 13 9 d_M_ancestors_6 (fun z3 => ?_) (fun z3 => ?_)
  · replace hyp := ab_neg z3 hyp
    refine ab_iconst 14 d_M_ancestors_13 (0 : Int32) (by decide) ?_
    refine ab_pick [0, 1] [(0, _), (1, _)] rfl ?_
    exact q_M_ancestors_c14 v1 (0 : Int32) M hyp
  · replace hyp := ab_pos z3 hyp
    refine ab_iconst 10 d_M_ancestors_9 (1 : Int32) (by decide) ?_
    refine ab_goto 14 d_M_ancestors_10 ?_
    refine ab_pick [0, 1] [(0, _), (1, _)] rfl ?_
    exact q_M_ancestors_c14 v1 (1 : Int32) M hyp
/-! M_descendants -/
def M_descendants_b29 (rec29 : Int32 → Int32 → Int32 → Me → Option (Int32 × Me)) (v1 : Int32) (v2 : Int32) (v3 : Int32) (M : Me) : Option (Int32 × Me) :=
  if (gF M 5) ≤ v3 then (some (v2, M)) else (if v3 = v1 then (rec29 v1 v2 (v3 + (1 : Int32)) M) else (Option.bind (M_linesOf M v1 v3) (fun r4 => if r4.1 ≤ (0 : Int32) then (rec29 v1 v2 (v3 + (1 : Int32)) r4.2) else (rec29 v1 (v2 ||| ((1 : Int32) <<< (v3 &&& 31))) (v3 + (1 : Int32)) r4.2))))
def M_descendants_L29 : Nat → Int32 → Int32 → Int32 → Me → Option (Int32 × Me)
  | 0, _, _, _, _ => none
  | F + 1, v1, v2, v3, M => M_descendants_b29 (M_descendants_L29 F) v1 v2 v3 M
def M_descendants_c14 (v1 : Int32) (s0 : Int32) (M : Me) : Option (Int32 × Me) :=
  Option.bind (M_refused M s0 (0 : Int32) (0 : Int32) (0 : Int32)) (fun r2 => if r2.1 = (0 : Int32) then (M_descendants_L29 64 v1 (0 : Int32) (0 : Int32) r2.2) else (some ((0 : Int32), r2.2)))
def M_descendants (M : Me) (v1 : Int32) : Option (Int32 × Me) :=
  Option.bind (M_is M v1) (fun r2 => if r2 = (0 : Int32) then (M_descendants_c14 v1 (1 : Int32) M) else (M_descendants_c14 v1 (0 : Int32) M))
def rm_M_descendants : Room := { frames := 1, locals := 25, cells := 0, slots := 0 }
theorem q_M_descendants_b29 {l : Launch} {D : va_G} {B : Nat} {ad : Nat → Nat} {r : Int32 × Me} (rec29 : Int32 → Int32 → Int32 → Me → Option (Int32 × Me)) (hrec29 : ∀ (v1 : Int32) (v2 : Int32) (v3 : Int32) (M : Me) , rec29 v1 v2 v3 M = some r → ab_V (ab_km l D B ad y_M_descendants rm_M_descendants (.ok (some (.int r.1))) (lay r.2)) ad 29 [(0, .ref 3), (1, .int v1), (2, .int v2), (3, .int v3)] [] (lay M) 0 0) (v1 : Int32) (v2 : Int32) (v3 : Int32) (M : Me) (hyp : M_descendants_b29 rec29 v1 v2 v3 M = some r) : ab_V (ab_km l D B ad y_M_descendants rm_M_descendants (.ok (some (.int r.1))) (lay r.2)) ad 29 [(0, .ref 3), (1, .int v1), (2, .int v2), (3, .int v3)] [] (lay M) 0 0 := by
  unfold M_descendants_b29 at hyp
  refine ab_iload_n 30 d_M_descendants_29 rfl ?_
  refine ab_aload_n 31 d_M_descendants_30 rfl ?_
  refine ab_get 34 d_M_descendants_31 fd_25 rfl rfl ?_
  refine ab_ic_ge 67 37 d_M_descendants_34 (fun z1 => ?_) (fun z1 => ?_)
  · replace hyp := ab_pos z1 hyp
    refine ab_iload_n 68 d_M_descendants_67 rfl ?_
    cases hyp
    exact ab_ireturn d_M_descendants_68 rfl rfl rfl (Nat.le_of_ble_eq_true rfl) (Nat.le_of_ble_eq_true rfl)
  · replace hyp := ab_neg z1 hyp
    refine ab_iload_n 38 d_M_descendants_37 rfl ?_
    refine ab_iload_n 39 d_M_descendants_38 rfl ?_
    refine ab_ic_eq 59 42 d_M_descendants_39 (fun z2 => ?_) (fun z2 => ?_)
    · replace hyp := ab_pos z2 hyp
      refine ab_iload_n 60 d_M_descendants_59 rfl ?_
      refine ab_istore_n 61 [(2, _), (0, _), (1, _), (3, _)] d_M_descendants_60 rfl ?_
      refine ab_iinc 64 [(3, _), (2, _), (0, _), (1, _)] d_M_descendants_61 (1 : Int32) (by decide) rfl rfl ?_
      refine ab_goto 29 d_M_descendants_64 ?_
      refine ab_pick [2, 3, 1, 0] [(0, _), (1, _), (2, _), (3, _)] rfl ?_
      exact hrec29 v1 v2 (v3 + (1 : Int32)) M hyp
    · replace hyp := ab_neg z2 hyp
      refine ab_aload_n 43 d_M_descendants_42 rfl ?_
      refine ab_iload_n 44 d_M_descendants_43 rfl ?_
      refine ab_iload_n 45 d_M_descendants_44 rfl ?_
      obtain ⟨r4, hc3, hyp⟩ := ab_bind hyp
      refine ab_callV (h' := lay r4.2) 48 0 0 [] [.int r4.1] d_M_descendants_45 ok_M_linesOf lk_60 (c_M_linesOf hc3) rfl rfl ?_
      refine ab_if_le 59 51 d_M_descendants_48 (fun z5 => ?_) (fun z5 => ?_)
      · replace hyp := ab_pos z5 hyp
        refine ab_iload_n 60 d_M_descendants_59 rfl ?_
        refine ab_istore_n 61 [(2, _), (0, _), (1, _), (3, _)] d_M_descendants_60 rfl ?_
        refine ab_iinc 64 [(3, _), (2, _), (0, _), (1, _)] d_M_descendants_61 (1 : Int32) (by decide) rfl rfl ?_
        refine ab_goto 29 d_M_descendants_64 ?_
        refine ab_pick [2, 3, 1, 0] [(0, _), (1, _), (2, _), (3, _)] rfl ?_
        exact hrec29 v1 v2 (v3 + (1 : Int32)) r4.2 hyp
      · replace hyp := ab_neg z5 hyp
        refine ab_iload_n 52 d_M_descendants_51 rfl ?_
        refine ab_iconst 53 d_M_descendants_52 (1 : Int32) (by decide) ?_
        refine ab_iload_n 54 d_M_descendants_53 rfl ?_
        refine ab_ishl 55 d_M_descendants_54 ?_
        refine ab_ior 56 d_M_descendants_55 ?_
        refine ab_goto 60 d_M_descendants_56 ?_
        refine ab_istore_n 61 [(2, _), (0, _), (1, _), (3, _)] d_M_descendants_60 rfl ?_
        refine ab_iinc 64 [(3, _), (2, _), (0, _), (1, _)] d_M_descendants_61 (1 : Int32) (by decide) rfl rfl ?_
        refine ab_goto 29 d_M_descendants_64 ?_
        refine ab_pick [2, 3, 1, 0] [(0, _), (1, _), (2, _), (3, _)] rfl ?_
        exact hrec29 v1 (v2 ||| ((1 : Int32) <<< (v3 &&& 31))) (v3 + (1 : Int32)) r4.2 hyp
theorem q_M_descendants_L29 {l : Launch} {D : va_G} {B : Nat} {ad : Nat → Nat} {r : Int32 × Me} : ∀ (F : Nat) (v1 : Int32) (v2 : Int32) (v3 : Int32) (M : Me) , M_descendants_L29 F v1 v2 v3 M = some r → ab_V (ab_km l D B ad y_M_descendants rm_M_descendants (.ok (some (.int r.1))) (lay r.2)) ad 29 [(0, .ref 3), (1, .int v1), (2, .int v2), (3, .int v3)] [] (lay M) 0 0 := by
  intro F
  induction F with
  | zero =>
    intro v1 v2 v3 M hyp
    have h2 : (none : Option (Int32 × Me)) = some r := hyp
    cases h2
  | succ F ih =>
    intro v1 v2 v3 M hyp
    exact q_M_descendants_b29 (M_descendants_L29 F) ih v1 v2 v3 M hyp
theorem q_M_descendants_c14 {l : Launch} {D : va_G} {B : Nat} {ad : Nat → Nat} {r : Int32 × Me} (v1 : Int32) (s0 : Int32) (M : Me) (hyp : M_descendants_c14 v1 s0 M = some r) : ab_V (ab_km l D B ad y_M_descendants rm_M_descendants (.ok (some (.int r.1))) (lay r.2)) ad 14 [(0, .ref 3), (1, .int v1)] [.int s0, .ref 3] (lay M) 0 0 := by
  unfold M_descendants_c14 at hyp
  refine ab_iconst 15 d_M_descendants_14 (0 : Int32) (by decide) ?_
  refine ab_iconst 16 d_M_descendants_15 (0 : Int32) (by decide) ?_
  refine ab_iconst 17 d_M_descendants_16 (0 : Int32) (by decide) ?_
  obtain ⟨r2, hc1, hyp⟩ := ab_bind hyp
  refine ab_callV (h' := lay r2.2) 20 0 0 [] [.int r2.1] d_M_descendants_17 ok_M_refused lk_55 (c_M_refused hc1) rfl rfl ?_
  refine ab_if_eq 25 23 d_M_descendants_20 (fun z3 => ?_) (fun z3 => ?_)
  · replace hyp := ab_pos z3 hyp
    refine ab_iconst 26 d_M_descendants_25 (0 : Int32) (by decide) ?_
    refine ab_istore_n 27 [(2, _), (0, _), (1, _)] d_M_descendants_26 rfl ?_
    refine ab_iconst 28 d_M_descendants_27 (0 : Int32) (by decide) ?_
    refine ab_istore_n 29 [(3, _), (2, _), (0, _), (1, _)] d_M_descendants_28 rfl ?_
    refine ab_pick [2, 3, 1, 0] [(0, _), (1, _), (2, _), (3, _)] rfl ?_
    exact q_M_descendants_L29 64 v1 (0 : Int32) (0 : Int32) r2.2 hyp
  · replace hyp := ab_neg z3 hyp
    refine ab_iconst 24 d_M_descendants_23 (0 : Int32) (by decide) ?_
    cases hyp
    exact ab_ireturn d_M_descendants_24 rfl rfl rfl (Nat.le_of_ble_eq_true rfl) (Nat.le_of_ble_eq_true rfl)
theorem c_M_descendants {M : Me} {v1 : Int32} {r : Int32 × Me} (hyp : M_descendants M v1 = some r) : ab_Met y_M_descendants rm_M_descendants [.ref 3, .int v1] (lay M) (.ok (some (.int r.1))) (lay r.2) := by
  refine ab_start rfl rfl (Nat.le_of_ble_eq_true rfl) (fun l D B ad => ?_)
  show ab_V _ ad 0 [(0, .ref 3), (1, .int v1)] [] _ 0 0
  unfold M_descendants at hyp
  refine ab_aload_n 1 d_M_descendants_0 rfl ?_
  refine ab_aload_n 2 d_M_descendants_1 rfl ?_
  refine ab_iload_n 3 d_M_descendants_2 rfl ?_
  obtain ⟨r2, hc1, hyp⟩ := ab_bind hyp
  refine ab_callV (h' := lay M) 6 0 0 [.ref 3] [.int r2, .ref 3] d_M_descendants_3 ok_M_is lk_51 (c_M_is hc1) rfl rfl ?_
  refine ab_if_ne 13 9 d_M_descendants_6 (fun z3 => ?_) (fun z3 => ?_)
  · replace hyp := ab_neg z3 hyp
    refine ab_iconst 14 d_M_descendants_13 (0 : Int32) (by decide) ?_
    refine ab_pick [0, 1] [(0, _), (1, _)] rfl ?_
    exact q_M_descendants_c14 v1 (0 : Int32) M hyp
  · replace hyp := ab_pos z3 hyp
    refine ab_iconst 10 d_M_descendants_9 (1 : Int32) (by decide) ?_
    refine ab_goto 14 d_M_descendants_10 ?_
    refine ab_pick [0, 1] [(0, _), (1, _)] rfl ?_
    exact q_M_descendants_c14 v1 (1 : Int32) M hyp
/-! M_lines -/
def M_lines_c22 (v1 : Int32) (v2 : Int32) (s0 : Int32) (M : Me) : Option (Int32 × Me) :=
  Option.bind (M_refused M s0 (0 : Int32) (0 : Int32) (0 : Int32)) (fun r2 => if r2.1 = (0 : Int32) then (Option.bind (M_linesOf r2.2 v1 v2) (fun r5 => some (r5.1, r5.2))) else (some ((0 : Int32), r2.2)))
def M_lines (M : Me) (v1 : Int32) (v2 : Int32) : Option (Int32 × Me) :=
  Option.bind (M_is M v1) (fun r2 => if r2 = (0 : Int32) then (M_lines_c22 v1 v2 (1 : Int32) M) else (Option.bind (M_is M v2) (fun r5 => if r5 = (0 : Int32) then (M_lines_c22 v1 v2 (1 : Int32) M) else (M_lines_c22 v1 v2 (0 : Int32) M))))
def rm_M_lines : Room := { frames := 1, locals := 25, cells := 0, slots := 0 }
theorem q_M_lines_c22 {l : Launch} {D : va_G} {B : Nat} {ad : Nat → Nat} {r : Int32 × Me} (v1 : Int32) (v2 : Int32) (s0 : Int32) (M : Me) (hyp : M_lines_c22 v1 v2 s0 M = some r) : ab_V (ab_km l D B ad y_M_lines rm_M_lines (.ok (some (.int r.1))) (lay r.2)) ad 22 [(0, .ref 3), (1, .int v1), (2, .int v2)] [.int s0, .ref 3] (lay M) 0 0 := by
  unfold M_lines_c22 at hyp
  refine ab_iconst 23 d_M_lines_22 (0 : Int32) (by decide) ?_
  refine ab_iconst 24 d_M_lines_23 (0 : Int32) (by decide) ?_
  refine ab_iconst 25 d_M_lines_24 (0 : Int32) (by decide) ?_
  obtain ⟨r2, hc1, hyp⟩ := ab_bind hyp
  refine ab_callV (h' := lay r2.2) 28 0 0 [] [.int r2.1] d_M_lines_25 ok_M_refused lk_55 (c_M_refused hc1) rfl rfl ?_
  refine ab_if_eq 35 31 d_M_lines_28 (fun z3 => ?_) (fun z3 => ?_)
  · replace hyp := ab_pos z3 hyp
    refine ab_aload_n 36 d_M_lines_35 rfl ?_
    refine ab_iload_n 37 d_M_lines_36 rfl ?_
    refine ab_iload_n 38 d_M_lines_37 rfl ?_
    obtain ⟨r5, hc4, hyp⟩ := ab_bind hyp
    refine ab_callV (h' := lay r5.2) 41 0 0 [] [.int r5.1] d_M_lines_38 ok_M_linesOf lk_60 (c_M_linesOf hc4) rfl rfl ?_
    cases hyp
    exact ab_ireturn d_M_lines_41 rfl rfl rfl (Nat.le_of_ble_eq_true rfl) (Nat.le_of_ble_eq_true rfl)
  · replace hyp := ab_neg z3 hyp
    refine ab_iconst 32 d_M_lines_31 (0 : Int32) (by decide) ?_
    refine ab_goto 41 d_M_lines_32 ?_
    cases hyp
    exact ab_ireturn d_M_lines_41 rfl rfl rfl (Nat.le_of_ble_eq_true rfl) (Nat.le_of_ble_eq_true rfl)
theorem c_M_lines {M : Me} {v1 : Int32} {v2 : Int32} {r : Int32 × Me} (hyp : M_lines M v1 v2 = some r) : ab_Met y_M_lines rm_M_lines [.ref 3, .int v1, .int v2] (lay M) (.ok (some (.int r.1))) (lay r.2) := by
  refine ab_start rfl rfl (Nat.le_of_ble_eq_true rfl) (fun l D B ad => ?_)
  show ab_V _ ad 0 [(0, .ref 3), (1, .int v1), (2, .int v2)] [] _ 0 0
  unfold M_lines at hyp
  refine ab_aload_n 1 d_M_lines_0 rfl ?_
  refine ab_aload_n 2 d_M_lines_1 rfl ?_
  refine ab_iload_n 3 d_M_lines_2 rfl ?_
  obtain ⟨r2, hc1, hyp⟩ := ab_bind hyp
  refine ab_callV (h' := lay M) 6 0 0 [.ref 3] [.int r2, .ref 3] d_M_lines_3 ok_M_is lk_51 (c_M_is hc1) rfl rfl ?_
  refine ab_if_eq 17 9 d_M_lines_6 (fun z3 => ?_) (fun z3 => ?_)
  · replace hyp := ab_pos z3 hyp
    refine ab_iconst 18 d_M_lines_17 (1 : Int32) (by decide) ?_
    refine ab_goto 22 d_M_lines_18 ?_
    refine ab_pick [0, 1, 2] [(0, _), (1, _), (2, _)] rfl ?_
    exact q_M_lines_c22 v1 v2 (1 : Int32) M hyp
  · replace hyp := ab_neg z3 hyp
    refine ab_aload_n 10 d_M_lines_9 rfl ?_
    refine ab_iload_n 11 d_M_lines_10 rfl ?_
    obtain ⟨r5, hc4, hyp⟩ := ab_bind hyp
    refine ab_callV (h' := lay M) 14 0 0 [.ref 3] [.int r5, .ref 3] d_M_lines_11 ok_M_is lk_51 (c_M_is hc4) rfl rfl ?_
    refine ab_if_ne 21 17 d_M_lines_14 (fun z6 => ?_) (fun z6 => ?_)
    · replace hyp := ab_neg z6 hyp
      refine ab_iconst 22 d_M_lines_21 (0 : Int32) (by decide) ?_
      refine ab_pick [0, 1, 2] [(0, _), (1, _), (2, _)] rfl ?_
      exact q_M_lines_c22 v1 v2 (0 : Int32) M hyp
    · replace hyp := ab_pos z6 hyp
      refine ab_iconst 18 d_M_lines_17 (1 : Int32) (by decide) ?_
      refine ab_goto 22 d_M_lines_18 ?_
      refine ab_pick [0, 1, 2] [(0, _), (1, _), (2, _)] rfl ?_
      exact q_M_lines_c22 v1 v2 (1 : Int32) M hyp
/-! M_nearest -/
def M_nearest_b59 (rec59 : Int32 → Int32 → Int32 → Me → Option (Int32 × Me)) (v3 : Int32) (v4 : Int32) (v5 : Int32) (M : Me) : Option (Int32 × Me) :=
  if (gF M 5) ≤ v5 then (some (v4, M)) else (if ((v3 >>> (v5 &&& 31)) &&& (1 : Int32)) = (1 : Int32) then (Option.bind (M_ancestorsOf M v5) (fun r4 => rec59 v3 (v4 &&& (r4.1 ^^^ (-1 : Int32))) (v5 + (1 : Int32)) r4.2)) else (rec59 v3 v4 (v5 + (1 : Int32)) M))
def M_nearest_L59 : Nat → Int32 → Int32 → Int32 → Me → Option (Int32 × Me)
  | 0, _, _, _, _ => none
  | F + 1, v3, v4, v5, M => M_nearest_b59 (M_nearest_L59 F) v3 v4 v5 M
def M_nearest_c22 (v1 : Int32) (v2 : Int32) (s0 : Int32) (M : Me) : Option (Int32 × Me) :=
  Option.bind (M_refused M s0 (0 : Int32) (0 : Int32) (0 : Int32)) (fun r2 => if r2.1 = (0 : Int32) then (Option.bind (M_ancestorsOf r2.2 v1) (fun r5 => Option.bind (M_ancestorsOf r5.2 v2) (fun r7 => M_nearest_L59 64 ((r5.1 ||| ((1 : Int32) <<< (v1 &&& 31))) &&& (r7.1 ||| ((1 : Int32) <<< (v2 &&& 31)))) ((r5.1 ||| ((1 : Int32) <<< (v1 &&& 31))) &&& (r7.1 ||| ((1 : Int32) <<< (v2 &&& 31)))) (0 : Int32) r7.2))) else (some ((0 : Int32), r2.2)))
def M_nearest (M : Me) (v1 : Int32) (v2 : Int32) : Option (Int32 × Me) :=
  Option.bind (M_is M v1) (fun r2 => if r2 = (0 : Int32) then (M_nearest_c22 v1 v2 (1 : Int32) M) else (Option.bind (M_is M v2) (fun r5 => if r5 = (0 : Int32) then (M_nearest_c22 v1 v2 (1 : Int32) M) else (M_nearest_c22 v1 v2 (0 : Int32) M))))
def rm_M_nearest : Room := { frames := 2, locals := 48, cells := 0, slots := 0 }
theorem q_M_nearest_b59 {l : Launch} {D : va_G} {B : Nat} {ad : Nat → Nat} {r : Int32 × Me} (rec59 : Int32 → Int32 → Int32 → Me → Option (Int32 × Me)) (hrec59 : ∀ (v3 : Int32) (v4 : Int32) (v5 : Int32) (M : Me) , rec59 v3 v4 v5 M = some r → ab_V (ab_km l D B ad y_M_nearest rm_M_nearest (.ok (some (.int r.1))) (lay r.2)) ad 59 [(0, .ref 3), (3, .int v3), (4, .int v4), (5, .int v5)] [] (lay M) 0 0) (v3 : Int32) (v4 : Int32) (v5 : Int32) (M : Me) (hyp : M_nearest_b59 rec59 v3 v4 v5 M = some r) : ab_V (ab_km l D B ad y_M_nearest rm_M_nearest (.ok (some (.int r.1))) (lay r.2)) ad 59 [(0, .ref 3), (3, .int v3), (4, .int v4), (5, .int v5)] [] (lay M) 0 0 := by
  unfold M_nearest_b59 at hyp
  refine ab_iload 61 d_M_nearest_59 rfl ?_
  refine ab_aload_n 62 d_M_nearest_61 rfl ?_
  refine ab_get 65 d_M_nearest_62 fd_25 rfl rfl ?_
  refine ab_ic_ge 97 68 d_M_nearest_65 (fun z1 => ?_) (fun z1 => ?_)
  · replace hyp := ab_pos z1 hyp
    refine ab_iload 99 d_M_nearest_97 rfl ?_
    cases hyp
    exact ab_ireturn d_M_nearest_99 rfl rfl rfl (Nat.le_of_ble_eq_true rfl) (Nat.le_of_ble_eq_true rfl)
  · replace hyp := ab_neg z1 hyp
    refine ab_iload_n 69 d_M_nearest_68 rfl ?_
    refine ab_iload 71 d_M_nearest_69 rfl ?_
    refine ab_ishr 72 d_M_nearest_71 ?_
    refine ab_iconst 73 d_M_nearest_72 (1 : Int32) (by decide) ?_
    refine ab_iand 74 d_M_nearest_73 ?_
    refine ab_iconst 75 d_M_nearest_74 (1 : Int32) (by decide) ?_
    refine ab_ic_ne 91 78 d_M_nearest_75 (fun z2 => ?_) (fun z2 => ?_)
    · replace hyp := ab_neg z2 hyp
      refine ab_iinc 94 [(5, _), (0, _), (3, _), (4, _)] d_M_nearest_91 (1 : Int32) (by decide) rfl rfl ?_
      refine ab_goto 59 d_M_nearest_94 ?_
      refine ab_pick [1, 2, 3, 0] [(0, _), (3, _), (4, _), (5, _)] rfl ?_
      exact hrec59 v3 v4 (v5 + (1 : Int32)) M hyp
    · replace hyp := ab_pos z2 hyp
      refine ab_iload 80 d_M_nearest_78 rfl ?_
      refine ab_aload_n 81 d_M_nearest_80 rfl ?_
      refine ab_iload 83 d_M_nearest_81 rfl ?_
      obtain ⟨r4, hc3, hyp⟩ := ab_bind hyp
      refine ab_callV (h' := lay r4.2) 86 0 0 [.int v4] [.int r4.1, .int v4] d_M_nearest_83 ok_M_ancestorsOf lk_61 (c_M_ancestorsOf hc3) rfl rfl ?_
      refine ab_iconst 87 d_M_nearest_86 (-1 : Int32) (by decide) ?_
      refine ab_ixor 88 d_M_nearest_87 ?_
      refine ab_iand 89 d_M_nearest_88 ?_
      refine ab_istore 91 [(4, _), (0, _), (3, _), (5, _)] d_M_nearest_89 rfl ?_
      refine ab_iinc 94 [(5, _), (4, _), (0, _), (3, _)] d_M_nearest_91 (1 : Int32) (by decide) rfl rfl ?_
      refine ab_goto 59 d_M_nearest_94 ?_
      refine ab_pick [2, 3, 1, 0] [(0, _), (3, _), (4, _), (5, _)] rfl ?_
      exact hrec59 v3 (v4 &&& (r4.1 ^^^ (-1 : Int32))) (v5 + (1 : Int32)) r4.2 hyp
theorem q_M_nearest_L59 {l : Launch} {D : va_G} {B : Nat} {ad : Nat → Nat} {r : Int32 × Me} : ∀ (F : Nat) (v3 : Int32) (v4 : Int32) (v5 : Int32) (M : Me) , M_nearest_L59 F v3 v4 v5 M = some r → ab_V (ab_km l D B ad y_M_nearest rm_M_nearest (.ok (some (.int r.1))) (lay r.2)) ad 59 [(0, .ref 3), (3, .int v3), (4, .int v4), (5, .int v5)] [] (lay M) 0 0 := by
  intro F
  induction F with
  | zero =>
    intro v3 v4 v5 M hyp
    have h2 : (none : Option (Int32 × Me)) = some r := hyp
    cases h2
  | succ F ih =>
    intro v3 v4 v5 M hyp
    exact q_M_nearest_b59 (M_nearest_L59 F) ih v3 v4 v5 M hyp
theorem q_M_nearest_c22 {l : Launch} {D : va_G} {B : Nat} {ad : Nat → Nat} {r : Int32 × Me} (v1 : Int32) (v2 : Int32) (s0 : Int32) (M : Me) (hyp : M_nearest_c22 v1 v2 s0 M = some r) : ab_V (ab_km l D B ad y_M_nearest rm_M_nearest (.ok (some (.int r.1))) (lay r.2)) ad 22 [(0, .ref 3), (1, .int v1), (2, .int v2)] [.int s0, .ref 3] (lay M) 0 0 := by
  unfold M_nearest_c22 at hyp
  refine ab_iconst 23 d_M_nearest_22 (0 : Int32) (by decide) ?_
  refine ab_iconst 24 d_M_nearest_23 (0 : Int32) (by decide) ?_
  refine ab_iconst 25 d_M_nearest_24 (0 : Int32) (by decide) ?_
  obtain ⟨r2, hc1, hyp⟩ := ab_bind hyp
  refine ab_callV (h' := lay r2.2) 28 0 0 [] [.int r2.1] d_M_nearest_25 ok_M_refused lk_55 (c_M_refused hc1) rfl rfl ?_
  refine ab_if_eq 33 31 d_M_nearest_28 (fun z3 => ?_) (fun z3 => ?_)
  · replace hyp := ab_pos z3 hyp
    refine ab_aload_n 34 d_M_nearest_33 rfl ?_
    refine ab_iload_n 35 d_M_nearest_34 rfl ?_
    obtain ⟨r5, hc4, hyp⟩ := ab_bind hyp
    refine ab_callV (h' := lay r5.2) 38 0 0 [] [.int r5.1] d_M_nearest_35 ok_M_ancestorsOf lk_61 (c_M_ancestorsOf hc4) rfl rfl ?_
    refine ab_iconst 39 d_M_nearest_38 (1 : Int32) (by decide) ?_
    refine ab_iload_n 40 d_M_nearest_39 rfl ?_
    refine ab_ishl 41 d_M_nearest_40 ?_
    refine ab_ior 42 d_M_nearest_41 ?_
    refine ab_aload_n 43 d_M_nearest_42 rfl ?_
    refine ab_iload_n 44 d_M_nearest_43 rfl ?_
    obtain ⟨r7, hc6, hyp⟩ := ab_bind hyp
    refine ab_callV (h' := lay r7.2) 47 0 0 [.int ((r5.1 ||| ((1 : Int32) <<< (v1 &&& 31))))] [.int r7.1, .int ((r5.1 ||| ((1 : Int32) <<< (v1 &&& 31))))] d_M_nearest_44 ok_M_ancestorsOf lk_61 (c_M_ancestorsOf hc6) rfl rfl ?_
    refine ab_iconst 48 d_M_nearest_47 (1 : Int32) (by decide) ?_
    refine ab_iload_n 49 d_M_nearest_48 rfl ?_
    refine ab_ishl 50 d_M_nearest_49 ?_
    refine ab_ior 51 d_M_nearest_50 ?_
    refine ab_iand 52 d_M_nearest_51 ?_
    refine ab_istore_n 53 [(3, _), (0, _), (1, _), (2, _)] d_M_nearest_52 rfl ?_
    refine ab_iload_n 54 d_M_nearest_53 rfl ?_
    refine ab_istore 56 [(4, _), (3, _), (0, _), (1, _), (2, _)] d_M_nearest_54 rfl ?_
    refine ab_iconst 57 d_M_nearest_56 (0 : Int32) (by decide) ?_
    refine ab_istore 59 [(5, _), (4, _), (3, _), (0, _), (1, _), (2, _)] d_M_nearest_57 rfl ?_
    refine ab_pick [3, 2, 1, 0] [(0, _), (3, _), (4, _), (5, _)] rfl ?_
    exact q_M_nearest_L59 64 ((r5.1 ||| ((1 : Int32) <<< (v1 &&& 31))) &&& (r7.1 ||| ((1 : Int32) <<< (v2 &&& 31)))) ((r5.1 ||| ((1 : Int32) <<< (v1 &&& 31))) &&& (r7.1 ||| ((1 : Int32) <<< (v2 &&& 31)))) (0 : Int32) r7.2 hyp
  · replace hyp := ab_neg z3 hyp
    refine ab_iconst 32 d_M_nearest_31 (0 : Int32) (by decide) ?_
    cases hyp
    exact ab_ireturn d_M_nearest_32 rfl rfl rfl (Nat.le_of_ble_eq_true rfl) (Nat.le_of_ble_eq_true rfl)
theorem c_M_nearest {M : Me} {v1 : Int32} {v2 : Int32} {r : Int32 × Me} (hyp : M_nearest M v1 v2 = some r) : ab_Met y_M_nearest rm_M_nearest [.ref 3, .int v1, .int v2] (lay M) (.ok (some (.int r.1))) (lay r.2) := by
  refine ab_start rfl rfl (Nat.le_of_ble_eq_true rfl) (fun l D B ad => ?_)
  show ab_V _ ad 0 [(0, .ref 3), (1, .int v1), (2, .int v2)] [] _ 0 0
  unfold M_nearest at hyp
  refine ab_aload_n 1 d_M_nearest_0 rfl ?_
  refine ab_aload_n 2 d_M_nearest_1 rfl ?_
  refine ab_iload_n 3 d_M_nearest_2 rfl ?_
  obtain ⟨r2, hc1, hyp⟩ := ab_bind hyp
  refine ab_callV (h' := lay M) 6 0 0 [.ref 3] [.int r2, .ref 3] d_M_nearest_3 ok_M_is lk_51 (c_M_is hc1) rfl rfl ?_
  refine ab_if_eq 17 9 d_M_nearest_6 (fun z3 => ?_) (fun z3 => ?_)
  · replace hyp := ab_pos z3 hyp
    refine ab_iconst 18 d_M_nearest_17 (1 : Int32) (by decide) ?_
    refine ab_goto 22 d_M_nearest_18 ?_
    refine ab_pick [0, 1, 2] [(0, _), (1, _), (2, _)] rfl ?_
    exact q_M_nearest_c22 v1 v2 (1 : Int32) M hyp
  · replace hyp := ab_neg z3 hyp
    refine ab_aload_n 10 d_M_nearest_9 rfl ?_
    refine ab_iload_n 11 d_M_nearest_10 rfl ?_
    obtain ⟨r5, hc4, hyp⟩ := ab_bind hyp
    refine ab_callV (h' := lay M) 14 0 0 [.ref 3] [.int r5, .ref 3] d_M_nearest_11 ok_M_is lk_51 (c_M_is hc4) rfl rfl ?_
    refine ab_if_ne 21 17 d_M_nearest_14 (fun z6 => ?_) (fun z6 => ?_)
    · replace hyp := ab_neg z6 hyp
      refine ab_iconst 22 d_M_nearest_21 (0 : Int32) (by decide) ?_
      refine ab_pick [0, 1, 2] [(0, _), (1, _), (2, _)] rfl ?_
      exact q_M_nearest_c22 v1 v2 (0 : Int32) M hyp
    · replace hyp := ab_pos z6 hyp
      refine ab_iconst 18 d_M_nearest_17 (1 : Int32) (by decide) ?_
      refine ab_goto 22 d_M_nearest_18 ?_
      refine ab_pick [0, 1, 2] [(0, _), (1, _), (2, _)] rfl ?_
      exact q_M_nearest_c22 v1 v2 (1 : Int32) M hyp
