/-! M_closest -/
def M_closest_b29 (rec29 : Int32 → Int32 → Int32 → Me → Option (Int32 × Me)) (v1 : Int32) (v2 : Int32) (v3 : Int32) (M : Me) : Option (Int32 × Me) :=
  if (gF M 5) ≤ v3 then (some (v2, M)) else (if v3 = v1 then (rec29 v1 v2 (v3 + (1 : Int32)) M) else (gd (inb v3 24) (if (gI M 16 v3) = (0 : Int32) then (if v2 < (0 : Int32) then (rec29 v1 v3 (v3 + (1 : Int32)) M) else (Option.bind (M_kinOf M v1 v3) (fun r7 => Option.bind (M_kinOf M v1 v2) (fun r9 => if r7 ≤ r9 then (rec29 v1 v2 (v3 + (1 : Int32)) M) else (rec29 v1 v3 (v3 + (1 : Int32)) M))))) else (rec29 v1 v2 (v3 + (1 : Int32)) M))))
def M_closest_L29 : Nat → Int32 → Int32 → Int32 → Me → Option (Int32 × Me)
  | 0, _, _, _, _ => none
  | F + 1, v1, v2, v3, M => M_closest_b29 (M_closest_L29 F) v1 v2 v3 M
def M_closest_c14 (v1 : Int32) (s0 : Int32) (M : Me) : Option (Int32 × Me) :=
  Option.bind (M_refused M s0 (0 : Int32) (0 : Int32) (0 : Int32)) (fun r2 => if r2.1 = (0 : Int32) then (M_closest_L29 64 v1 (-1 : Int32) (0 : Int32) r2.2) else (some ((0 : Int32), r2.2)))
def M_closest (M : Me) (v1 : Int32) : Option (Int32 × Me) :=
  Option.bind (M_is M v1) (fun r2 => if r2 = (0 : Int32) then (M_closest_c14 v1 (1 : Int32) M) else (M_closest_c14 v1 (0 : Int32) M))
def rm_M_closest : Room := { frames := 1, locals := 24, cells := 0, slots := 0 }
theorem q_M_closest_b29 {l : Launch} {D : va_G} {B : Nat} {ad : Nat → Nat} {r : Int32 × Me} (rec29 : Int32 → Int32 → Int32 → Me → Option (Int32 × Me)) (hrec29 : ∀ (v1 : Int32) (v2 : Int32) (v3 : Int32) (M : Me) , rec29 v1 v2 v3 M = some r → ab_V (ab_km l D B ad y_M_closest rm_M_closest (.ok (some (.int r.1))) (lay r.2)) ad 29 [(0, .ref 3), (1, .int v1), (2, .int v2), (3, .int v3)] [] (lay M) 0 0) (v1 : Int32) (v2 : Int32) (v3 : Int32) (M : Me) (hyp : M_closest_b29 rec29 v1 v2 v3 M = some r) : ab_V (ab_km l D B ad y_M_closest rm_M_closest (.ok (some (.int r.1))) (lay r.2)) ad 29 [(0, .ref 3), (1, .int v1), (2, .int v2), (3, .int v3)] [] (lay M) 0 0 := by
  unfold M_closest_b29 at hyp
  refine ab_iload_n 30 d_M_closest_29 rfl ?_
  refine ab_aload_n 31 d_M_closest_30 rfl ?_
  refine ab_get 34 d_M_closest_31 fd_25 rfl rfl ?_
  refine ab_ic_ge 79 37 d_M_closest_34 (fun z1 => ?_) (fun z1 => ?_)
  · replace hyp := ab_pos z1 hyp
    refine ab_iload_n 80 d_M_closest_79 rfl ?_
    cases hyp
    exact ab_ireturn d_M_closest_80 rfl rfl rfl (Nat.le_of_ble_eq_true rfl) (Nat.le_of_ble_eq_true rfl)
  · replace hyp := ab_neg z1 hyp
    refine ab_iload_n 38 d_M_closest_37 rfl ?_
    refine ab_iload_n 39 d_M_closest_38 rfl ?_
    refine ab_ic_eq 73 42 d_M_closest_39 (fun z2 => ?_) (fun z2 => ?_)
    · replace hyp := ab_pos z2 hyp
      refine ab_iinc 76 [(3, _), (0, _), (1, _), (2, _)] d_M_closest_73 (1 : Int32) (by decide) rfl rfl ?_
      refine ab_goto 29 d_M_closest_76 ?_
      refine ab_pick [1, 2, 3, 0] [(0, _), (1, _), (2, _), (3, _)] rfl ?_
      exact hrec29 v1 v2 (v3 + (1 : Int32)) M hyp
    · replace hyp := ab_neg z2 hyp
      refine ab_aload_n 43 d_M_closest_42 rfl ?_
      refine ab_get 46 d_M_closest_43 fd_33 rfl rfl ?_
      refine ab_iload_n 47 d_M_closest_46 rfl ?_
      obtain ⟨g3, hyp⟩ := ab_gd hyp
      refine ab_zld 16 24 48 d_M_closest_47 rfl g3 ?_
      refine ab_if_ne 73 51 d_M_closest_48 (fun z4 => ?_) (fun z4 => ?_)
      · replace hyp := ab_neg z4 hyp
        refine ab_iinc 76 [(3, _), (0, _), (1, _), (2, _)] d_M_closest_73 (1 : Int32) (by decide) rfl rfl ?_
        refine ab_goto 29 d_M_closest_76 ?_
        refine ab_pick [1, 2, 3, 0] [(0, _), (1, _), (2, _), (3, _)] rfl ?_
        exact hrec29 v1 v2 (v3 + (1 : Int32)) M hyp
      · replace hyp := ab_pos z4 hyp
        refine ab_iload_n 52 d_M_closest_51 rfl ?_
        refine ab_if_lt 71 55 d_M_closest_52 (fun z5 => ?_) (fun z5 => ?_)
        · replace hyp := ab_pos z5 hyp
          refine ab_iload_n 72 d_M_closest_71 rfl ?_
          refine ab_istore_n 73 [(2, _), (0, _), (1, _), (3, _)] d_M_closest_72 rfl ?_
          refine ab_iinc 76 [(3, _), (2, _), (0, _), (1, _)] d_M_closest_73 (1 : Int32) (by decide) rfl rfl ?_
          refine ab_goto 29 d_M_closest_76 ?_
          refine ab_pick [2, 3, 1, 0] [(0, _), (1, _), (2, _), (3, _)] rfl ?_
          exact hrec29 v1 v3 (v3 + (1 : Int32)) M hyp
        · replace hyp := ab_neg z5 hyp
          refine ab_aload_n 56 d_M_closest_55 rfl ?_
          refine ab_iload_n 57 d_M_closest_56 rfl ?_
          refine ab_iload_n 58 d_M_closest_57 rfl ?_
          obtain ⟨r7, hc6, hyp⟩ := ab_bind hyp
          refine ab_callV (h' := lay M) 61 0 0 [] [.long r7] d_M_closest_58 ok_M_kinOf lk_52 (c_M_kinOf hc6) rfl rfl ?_
          refine ab_aload_n 62 d_M_closest_61 rfl ?_
          refine ab_iload_n 63 d_M_closest_62 rfl ?_
          refine ab_iload_n 64 d_M_closest_63 rfl ?_
          obtain ⟨r9, hc8, hyp⟩ := ab_bind hyp
          refine ab_callV (h' := lay M) 67 0 0 [.long r7] [.long r9, .long r7] d_M_closest_64 ok_M_kinOf lk_52 (c_M_kinOf hc8) rfl rfl ?_
          refine ab_lc_le 73 68 71 d_M_closest_67 d_M_closest_68 (fun z10 => ?_) (fun z10 => ?_)
          · replace hyp := ab_pos z10 hyp
            refine ab_iinc 76 [(3, _), (0, _), (1, _), (2, _)] d_M_closest_73 (1 : Int32) (by decide) rfl rfl ?_
            refine ab_goto 29 d_M_closest_76 ?_
            refine ab_pick [1, 2, 3, 0] [(0, _), (1, _), (2, _), (3, _)] rfl ?_
            exact hrec29 v1 v2 (v3 + (1 : Int32)) M hyp
          · replace hyp := ab_neg z10 hyp
            refine ab_iload_n 72 d_M_closest_71 rfl ?_
            refine ab_istore_n 73 [(2, _), (0, _), (1, _), (3, _)] d_M_closest_72 rfl ?_
            refine ab_iinc 76 [(3, _), (2, _), (0, _), (1, _)] d_M_closest_73 (1 : Int32) (by decide) rfl rfl ?_
            refine ab_goto 29 d_M_closest_76 ?_
            refine ab_pick [2, 3, 1, 0] [(0, _), (1, _), (2, _), (3, _)] rfl ?_
            exact hrec29 v1 v3 (v3 + (1 : Int32)) M hyp
theorem q_M_closest_L29 {l : Launch} {D : va_G} {B : Nat} {ad : Nat → Nat} {r : Int32 × Me} : ∀ (F : Nat) (v1 : Int32) (v2 : Int32) (v3 : Int32) (M : Me) , M_closest_L29 F v1 v2 v3 M = some r → ab_V (ab_km l D B ad y_M_closest rm_M_closest (.ok (some (.int r.1))) (lay r.2)) ad 29 [(0, .ref 3), (1, .int v1), (2, .int v2), (3, .int v3)] [] (lay M) 0 0 := by
  intro F
  induction F with
  | zero =>
    intro v1 v2 v3 M hyp
    have h2 : (none : Option (Int32 × Me)) = some r := hyp
    cases h2
  | succ F ih =>
    intro v1 v2 v3 M hyp
    exact q_M_closest_b29 (M_closest_L29 F) ih v1 v2 v3 M hyp
theorem q_M_closest_c14 {l : Launch} {D : va_G} {B : Nat} {ad : Nat → Nat} {r : Int32 × Me} (v1 : Int32) (s0 : Int32) (M : Me) (hyp : M_closest_c14 v1 s0 M = some r) : ab_V (ab_km l D B ad y_M_closest rm_M_closest (.ok (some (.int r.1))) (lay r.2)) ad 14 [(0, .ref 3), (1, .int v1)] [.int s0, .ref 3] (lay M) 0 0 := by
  unfold M_closest_c14 at hyp
  refine ab_iconst 15 d_M_closest_14 (0 : Int32) (by decide) ?_
  refine ab_iconst 16 d_M_closest_15 (0 : Int32) (by decide) ?_
  refine ab_iconst 17 d_M_closest_16 (0 : Int32) (by decide) ?_
  obtain ⟨r2, hc1, hyp⟩ := ab_bind hyp
  refine ab_callV (h' := lay r2.2) 20 0 0 [] [.int r2.1] d_M_closest_17 ok_M_refused lk_55 (c_M_refused hc1) rfl rfl ?_
  refine ab_if_eq 25 23 d_M_closest_20 (fun z3 => ?_) (fun z3 => ?_)
  · replace hyp := ab_pos z3 hyp
    refine ab_iconst 26 d_M_closest_25 (-1 : Int32) (by decide) ?_
    refine ab_istore_n 27 [(2, _), (0, _), (1, _)] d_M_closest_26 rfl ?_
    refine ab_iconst 28 d_M_closest_27 (0 : Int32) (by decide) ?_
    refine ab_istore_n 29 [(3, _), (2, _), (0, _), (1, _)] d_M_closest_28 rfl ?_
    refine ab_pick [2, 3, 1, 0] [(0, _), (1, _), (2, _), (3, _)] rfl ?_
    exact q_M_closest_L29 64 v1 (-1 : Int32) (0 : Int32) r2.2 hyp
  · replace hyp := ab_neg z3 hyp
    refine ab_iconst 24 d_M_closest_23 (0 : Int32) (by decide) ?_
    cases hyp
    exact ab_ireturn d_M_closest_24 rfl rfl rfl (Nat.le_of_ble_eq_true rfl) (Nat.le_of_ble_eq_true rfl)
theorem c_M_closest {M : Me} {v1 : Int32} {r : Int32 × Me} (hyp : M_closest M v1 = some r) : ab_Met y_M_closest rm_M_closest [.ref 3, .int v1] (lay M) (.ok (some (.int r.1))) (lay r.2) := by
  refine ab_start rfl rfl (Nat.le_of_ble_eq_true rfl) (fun l D B ad => ?_)
  show ab_V _ ad 0 [(0, .ref 3), (1, .int v1)] [] _ 0 0
  unfold M_closest at hyp
  refine ab_aload_n 1 d_M_closest_0 rfl ?_
  refine ab_aload_n 2 d_M_closest_1 rfl ?_
  refine ab_iload_n 3 d_M_closest_2 rfl ?_
  obtain ⟨r2, hc1, hyp⟩ := ab_bind hyp
  refine ab_callV (h' := lay M) 6 0 0 [.ref 3] [.int r2, .ref 3] d_M_closest_3 ok_M_is lk_51 (c_M_is hc1) rfl rfl ?_
  refine ab_if_ne 13 9 d_M_closest_6 (fun z3 => ?_) (fun z3 => ?_)
  · replace hyp := ab_neg z3 hyp
    refine ab_iconst 14 d_M_closest_13 (0 : Int32) (by decide) ?_
    refine ab_pick [0, 1] [(0, _), (1, _)] rfl ?_
    exact q_M_closest_c14 v1 (0 : Int32) M hyp
  · replace hyp := ab_pos z3 hyp
    refine ab_iconst 10 d_M_closest_9 (1 : Int32) (by decide) ?_
    refine ab_goto 14 d_M_closest_10 ?_
    refine ab_pick [0, 1] [(0, _), (1, _)] rfl ?_
    exact q_M_closest_c14 v1 (1 : Int32) M hyp
/-! M_isBull -/
def M_isBull (M : Me) (v1 : Int32) : Option Int32 :=
  gd (inb v1 24) (if (gI M 14 v1) = (0 : Int32) then (gd (inb v1 24) (if (gI M 16 v1) = (0 : Int32) then (some (1 : Int32)) else (some (0 : Int32)))) else (some (0 : Int32)))
def rm_M_isBull : Room := { frames := 0, locals := 0, cells := 0, slots := 0 }
theorem c_M_isBull {M : Me} {v1 : Int32} {r : Int32} (hyp : M_isBull M v1 = some r) : ab_Met y_M_isBull rm_M_isBull [.ref 3, .int v1] (lay M) (.ok (some (.int r))) (lay M) := by
  refine ab_start rfl rfl (Nat.le_of_ble_eq_true rfl) (fun l D B ad => ?_)
  show ab_V _ ad 0 [(0, .ref 3), (1, .int v1)] [] _ 0 0
  unfold M_isBull at hyp
  refine ab_aload_n 1 d_M_isBull_0 rfl ?_
  refine ab_get 4 d_M_isBull_1 fd_26 rfl rfl ?_
  refine ab_iload_n 5 d_M_isBull_4 rfl ?_
  obtain ⟨g1, hyp⟩ := ab_gd hyp
  refine ab_ild 14 24 6 d_M_isBull_5 rfl g1 ?_
  refine ab_if_ne 22 9 d_M_isBull_6 (fun z2 => ?_) (fun z2 => ?_)
  · replace hyp := ab_neg z2 hyp
    refine ab_iconst 23 d_M_isBull_22 (0 : Int32) (by decide) ?_
    cases hyp
    exact ab_zreturn d_M_isBull_23 rfl rfl rfl rfl (Nat.le_of_ble_eq_true rfl) (Nat.le_of_ble_eq_true rfl)
  · replace hyp := ab_pos z2 hyp
    refine ab_aload_n 10 d_M_isBull_9 rfl ?_
    refine ab_get 13 d_M_isBull_10 fd_33 rfl rfl ?_
    refine ab_iload_n 14 d_M_isBull_13 rfl ?_
    obtain ⟨g3, hyp⟩ := ab_gd hyp
    refine ab_zld 16 24 15 d_M_isBull_14 rfl g3 ?_
    refine ab_if_ne 22 18 d_M_isBull_15 (fun z4 => ?_) (fun z4 => ?_)
    · replace hyp := ab_neg z4 hyp
      refine ab_iconst 23 d_M_isBull_22 (0 : Int32) (by decide) ?_
      cases hyp
      exact ab_zreturn d_M_isBull_23 rfl rfl rfl rfl (Nat.le_of_ble_eq_true rfl) (Nat.le_of_ble_eq_true rfl)
    · replace hyp := ab_pos z4 hyp
      refine ab_iconst 19 d_M_isBull_18 (1 : Int32) (by decide) ?_
      refine ab_goto 23 d_M_isBull_19 ?_
      cases hyp
      exact ab_zreturn d_M_isBull_23 rfl rfl rfl rfl (Nat.le_of_ble_eq_true rfl) (Nat.le_of_ble_eq_true rfl)
/-! M_bestBull -/
def M_bestBull_b29 (rec29 : Int32 → Int32 → Int32 → Me → Option (Int32 × Me)) (v1 : Int32) (v2 : Int32) (v3 : Int32) (M : Me) : Option (Int32 × Me) :=
  if (gF M 5) ≤ v3 then (some (v2, M)) else (Option.bind (M_isBull M v3) (fun r3 => if r3 = (0 : Int32) then (rec29 v1 v2 (v3 + (1 : Int32)) M) else (if v2 < (0 : Int32) then (rec29 v1 v3 (v3 + (1 : Int32)) M) else (Option.bind (M_kinOf M v1 v3) (fun r7 => Option.bind (M_kinOf M v1 v2) (fun r9 => if r9 ≤ r7 then (rec29 v1 v2 (v3 + (1 : Int32)) M) else (rec29 v1 v3 (v3 + (1 : Int32)) M)))))))
def M_bestBull_L29 : Nat → Int32 → Int32 → Int32 → Me → Option (Int32 × Me)
  | 0, _, _, _, _ => none
  | F + 1, v1, v2, v3, M => M_bestBull_b29 (M_bestBull_L29 F) v1 v2 v3 M
def M_bestBull_c14 (v1 : Int32) (s0 : Int32) (M : Me) : Option (Int32 × Me) :=
  Option.bind (M_refused M s0 (0 : Int32) (0 : Int32) (0 : Int32)) (fun r2 => if r2.1 = (0 : Int32) then (M_bestBull_L29 64 v1 (-1 : Int32) (0 : Int32) r2.2) else (some ((0 : Int32), r2.2)))
def M_bestBull (M : Me) (v1 : Int32) : Option (Int32 × Me) :=
  Option.bind (M_is M v1) (fun r2 => if r2 = (0 : Int32) then (M_bestBull_c14 v1 (1 : Int32) M) else (M_bestBull_c14 v1 (0 : Int32) M))
def rm_M_bestBull : Room := { frames := 1, locals := 24, cells := 0, slots := 0 }
theorem q_M_bestBull_b29 {l : Launch} {D : va_G} {B : Nat} {ad : Nat → Nat} {r : Int32 × Me} (rec29 : Int32 → Int32 → Int32 → Me → Option (Int32 × Me)) (hrec29 : ∀ (v1 : Int32) (v2 : Int32) (v3 : Int32) (M : Me) , rec29 v1 v2 v3 M = some r → ab_V (ab_km l D B ad y_M_bestBull rm_M_bestBull (.ok (some (.int r.1))) (lay r.2)) ad 29 [(0, .ref 3), (1, .int v1), (2, .int v2), (3, .int v3)] [] (lay M) 0 0) (v1 : Int32) (v2 : Int32) (v3 : Int32) (M : Me) (hyp : M_bestBull_b29 rec29 v1 v2 v3 M = some r) : ab_V (ab_km l D B ad y_M_bestBull rm_M_bestBull (.ok (some (.int r.1))) (lay r.2)) ad 29 [(0, .ref 3), (1, .int v1), (2, .int v2), (3, .int v3)] [] (lay M) 0 0 := by
  unfold M_bestBull_b29 at hyp
  refine ab_iload_n 30 d_M_bestBull_29 rfl ?_
  refine ab_aload_n 31 d_M_bestBull_30 rfl ?_
  refine ab_get 34 d_M_bestBull_31 fd_25 rfl rfl ?_
  refine ab_ic_ge 73 37 d_M_bestBull_34 (fun z1 => ?_) (fun z1 => ?_)
  · replace hyp := ab_pos z1 hyp
    refine ab_iload_n 74 d_M_bestBull_73 rfl ?_
    cases hyp
    exact ab_ireturn d_M_bestBull_74 rfl rfl rfl (Nat.le_of_ble_eq_true rfl) (Nat.le_of_ble_eq_true rfl)
  · replace hyp := ab_neg z1 hyp
    refine ab_aload_n 38 d_M_bestBull_37 rfl ?_
    refine ab_iload_n 39 d_M_bestBull_38 rfl ?_
    obtain ⟨r3, hc2, hyp⟩ := ab_bind hyp
    refine ab_callV (h' := lay M) 42 0 0 [] [.int r3] d_M_bestBull_39 ok_M_isBull lk_62 (c_M_isBull hc2) rfl rfl ?_
    refine ab_if_eq 67 45 d_M_bestBull_42 (fun z4 => ?_) (fun z4 => ?_)
    · replace hyp := ab_pos z4 hyp
      refine ab_iinc 70 [(3, _), (0, _), (1, _), (2, _)] d_M_bestBull_67 (1 : Int32) (by decide) rfl rfl ?_
      refine ab_goto 29 d_M_bestBull_70 ?_
      refine ab_pick [1, 2, 3, 0] [(0, _), (1, _), (2, _), (3, _)] rfl ?_
      exact hrec29 v1 v2 (v3 + (1 : Int32)) M hyp
    · replace hyp := ab_neg z4 hyp
      refine ab_iload_n 46 d_M_bestBull_45 rfl ?_
      refine ab_if_lt 65 49 d_M_bestBull_46 (fun z5 => ?_) (fun z5 => ?_)
      · replace hyp := ab_pos z5 hyp
        refine ab_iload_n 66 d_M_bestBull_65 rfl ?_
        refine ab_istore_n 67 [(2, _), (0, _), (1, _), (3, _)] d_M_bestBull_66 rfl ?_
        refine ab_iinc 70 [(3, _), (2, _), (0, _), (1, _)] d_M_bestBull_67 (1 : Int32) (by decide) rfl rfl ?_
        refine ab_goto 29 d_M_bestBull_70 ?_
        refine ab_pick [2, 3, 1, 0] [(0, _), (1, _), (2, _), (3, _)] rfl ?_
        exact hrec29 v1 v3 (v3 + (1 : Int32)) M hyp
      · replace hyp := ab_neg z5 hyp
        refine ab_aload_n 50 d_M_bestBull_49 rfl ?_
        refine ab_iload_n 51 d_M_bestBull_50 rfl ?_
        refine ab_iload_n 52 d_M_bestBull_51 rfl ?_
        obtain ⟨r7, hc6, hyp⟩ := ab_bind hyp
        refine ab_callV (h' := lay M) 55 0 0 [] [.long r7] d_M_bestBull_52 ok_M_kinOf lk_52 (c_M_kinOf hc6) rfl rfl ?_
        refine ab_aload_n 56 d_M_bestBull_55 rfl ?_
        refine ab_iload_n 57 d_M_bestBull_56 rfl ?_
        refine ab_iload_n 58 d_M_bestBull_57 rfl ?_
        obtain ⟨r9, hc8, hyp⟩ := ab_bind hyp
        refine ab_callV (h' := lay M) 61 0 0 [.long r7] [.long r9, .long r7] d_M_bestBull_58 ok_M_kinOf lk_52 (c_M_kinOf hc8) rfl rfl ?_
        refine ab_lc_ge 67 62 65 d_M_bestBull_61 d_M_bestBull_62 (fun z10 => ?_) (fun z10 => ?_)
        · replace hyp := ab_pos z10 hyp
          refine ab_iinc 70 [(3, _), (0, _), (1, _), (2, _)] d_M_bestBull_67 (1 : Int32) (by decide) rfl rfl ?_
          refine ab_goto 29 d_M_bestBull_70 ?_
          refine ab_pick [1, 2, 3, 0] [(0, _), (1, _), (2, _), (3, _)] rfl ?_
          exact hrec29 v1 v2 (v3 + (1 : Int32)) M hyp
        · replace hyp := ab_neg z10 hyp
          refine ab_iload_n 66 d_M_bestBull_65 rfl ?_
          refine ab_istore_n 67 [(2, _), (0, _), (1, _), (3, _)] d_M_bestBull_66 rfl ?_
          refine ab_iinc 70 [(3, _), (2, _), (0, _), (1, _)] d_M_bestBull_67 (1 : Int32) (by decide) rfl rfl ?_
          refine ab_goto 29 d_M_bestBull_70 ?_
          refine ab_pick [2, 3, 1, 0] [(0, _), (1, _), (2, _), (3, _)] rfl ?_
          exact hrec29 v1 v3 (v3 + (1 : Int32)) M hyp
theorem q_M_bestBull_L29 {l : Launch} {D : va_G} {B : Nat} {ad : Nat → Nat} {r : Int32 × Me} : ∀ (F : Nat) (v1 : Int32) (v2 : Int32) (v3 : Int32) (M : Me) , M_bestBull_L29 F v1 v2 v3 M = some r → ab_V (ab_km l D B ad y_M_bestBull rm_M_bestBull (.ok (some (.int r.1))) (lay r.2)) ad 29 [(0, .ref 3), (1, .int v1), (2, .int v2), (3, .int v3)] [] (lay M) 0 0 := by
  intro F
  induction F with
  | zero =>
    intro v1 v2 v3 M hyp
    have h2 : (none : Option (Int32 × Me)) = some r := hyp
    cases h2
  | succ F ih =>
    intro v1 v2 v3 M hyp
    exact q_M_bestBull_b29 (M_bestBull_L29 F) ih v1 v2 v3 M hyp
theorem q_M_bestBull_c14 {l : Launch} {D : va_G} {B : Nat} {ad : Nat → Nat} {r : Int32 × Me} (v1 : Int32) (s0 : Int32) (M : Me) (hyp : M_bestBull_c14 v1 s0 M = some r) : ab_V (ab_km l D B ad y_M_bestBull rm_M_bestBull (.ok (some (.int r.1))) (lay r.2)) ad 14 [(0, .ref 3), (1, .int v1)] [.int s0, .ref 3] (lay M) 0 0 := by
  unfold M_bestBull_c14 at hyp
  refine ab_iconst 15 d_M_bestBull_14 (0 : Int32) (by decide) ?_
  refine ab_iconst 16 d_M_bestBull_15 (0 : Int32) (by decide) ?_
  refine ab_iconst 17 d_M_bestBull_16 (0 : Int32) (by decide) ?_
  obtain ⟨r2, hc1, hyp⟩ := ab_bind hyp
  refine ab_callV (h' := lay r2.2) 20 0 0 [] [.int r2.1] d_M_bestBull_17 ok_M_refused lk_55 (c_M_refused hc1) rfl rfl ?_
  refine ab_if_eq 25 23 d_M_bestBull_20 (fun z3 => ?_) (fun z3 => ?_)
  · replace hyp := ab_pos z3 hyp
    refine ab_iconst 26 d_M_bestBull_25 (-1 : Int32) (by decide) ?_
    refine ab_istore_n 27 [(2, _), (0, _), (1, _)] d_M_bestBull_26 rfl ?_
    refine ab_iconst 28 d_M_bestBull_27 (0 : Int32) (by decide) ?_
    refine ab_istore_n 29 [(3, _), (2, _), (0, _), (1, _)] d_M_bestBull_28 rfl ?_
    refine ab_pick [2, 3, 1, 0] [(0, _), (1, _), (2, _), (3, _)] rfl ?_
    exact q_M_bestBull_L29 64 v1 (-1 : Int32) (0 : Int32) r2.2 hyp
  · replace hyp := ab_neg z3 hyp
    refine ab_iconst 24 d_M_bestBull_23 (0 : Int32) (by decide) ?_
    cases hyp
    exact ab_ireturn d_M_bestBull_24 rfl rfl rfl (Nat.le_of_ble_eq_true rfl) (Nat.le_of_ble_eq_true rfl)
theorem c_M_bestBull {M : Me} {v1 : Int32} {r : Int32 × Me} (hyp : M_bestBull M v1 = some r) : ab_Met y_M_bestBull rm_M_bestBull [.ref 3, .int v1] (lay M) (.ok (some (.int r.1))) (lay r.2) := by
  refine ab_start rfl rfl (Nat.le_of_ble_eq_true rfl) (fun l D B ad => ?_)
  show ab_V _ ad 0 [(0, .ref 3), (1, .int v1)] [] _ 0 0
  unfold M_bestBull at hyp
  refine ab_aload_n 1 d_M_bestBull_0 rfl ?_
  refine ab_aload_n 2 d_M_bestBull_1 rfl ?_
  refine ab_iload_n 3 d_M_bestBull_2 rfl ?_
  obtain ⟨r2, hc1, hyp⟩ := ab_bind hyp
  refine ab_callV (h' := lay M) 6 0 0 [.ref 3] [.int r2, .ref 3] d_M_bestBull_3 ok_M_is lk_51 (c_M_is hc1) rfl rfl ?_
  refine ab_if_ne 13 9 d_M_bestBull_6 (fun z3 => ?_) (fun z3 => ?_)
  · replace hyp := ab_neg z3 hyp
    refine ab_iconst 14 d_M_bestBull_13 (0 : Int32) (by decide) ?_
    refine ab_pick [0, 1] [(0, _), (1, _)] rfl ?_
    exact q_M_bestBull_c14 v1 (0 : Int32) M hyp
  · replace hyp := ab_pos z3 hyp
    refine ab_iconst 10 d_M_bestBull_9 (1 : Int32) (by decide) ?_
    refine ab_goto 14 d_M_bestBull_10 ?_
    refine ab_pick [0, 1] [(0, _), (1, _)] rfl ?_
    exact q_M_bestBull_c14 v1 (1 : Int32) M hyp
/-! M_bitsOf -/
def M_bitsOf_b4 (M : Me) (rec4 : Int32 → Int32 → Int32 → Option Int32) (v0 : Int32) (v1 : Int32) (v2 : Int32) : Option Int32 :=
  if (32 : Int32) ≤ v2 then (some v1) else (rec4 v0 (v1 + ((v0 >>> (v2 &&& 31)) &&& (1 : Int32))) (v2 + (1 : Int32)))
def M_bitsOf_L4 (M : Me) : Nat → Int32 → Int32 → Int32 → Option Int32
  | 0, _, _, _ => none
  | F + 1, v0, v1, v2 => M_bitsOf_b4 M (M_bitsOf_L4 M F) v0 v1 v2
def M_bitsOf (M : Me) (v0 : Int32) : Option Int32 :=
  M_bitsOf_L4 M 64 v0 (0 : Int32) (0 : Int32)
def rm_M_bitsOf : Room := { frames := 0, locals := 0, cells := 0, slots := 0 }
theorem q_M_bitsOf_b4 {l : Launch} {D : va_G} {B : Nat} {ad : Nat → Nat} {r : Int32} (M : Me) (rec4 : Int32 → Int32 → Int32 → Option Int32) (hrec4 : ∀ (v0 : Int32) (v1 : Int32) (v2 : Int32) , rec4 v0 v1 v2 = some r → ab_V (ab_km l D B ad y_M_bitsOf rm_M_bitsOf (.ok (some (.int r))) (lay M)) ad 4 [(0, .int v0), (1, .int v1), (2, .int v2)] [] (lay M) 0 0) (v0 : Int32) (v1 : Int32) (v2 : Int32) (hyp : M_bitsOf_b4 M rec4 v0 v1 v2 = some r) : ab_V (ab_km l D B ad y_M_bitsOf rm_M_bitsOf (.ok (some (.int r))) (lay M)) ad 4 [(0, .int v0), (1, .int v1), (2, .int v2)] [] (lay M) 0 0 := by
  unfold M_bitsOf_b4 at hyp
  refine ab_iload_n 5 d_M_bitsOf_4 rfl ?_
  refine ab_bipush 7 d_M_bitsOf_5 (32 : Int32) (by decide) ?_
  refine ab_ic_ge 24 10 d_M_bitsOf_7 (fun z1 => ?_) (fun z1 => ?_)
  · replace hyp := ab_pos z1 hyp
    refine ab_iload_n 25 d_M_bitsOf_24 rfl ?_
    cases hyp
    exact ab_ireturn d_M_bitsOf_25 rfl rfl rfl (Nat.le_of_ble_eq_true rfl) (Nat.le_of_ble_eq_true rfl)
  · replace hyp := ab_neg z1 hyp
    refine ab_iload_n 11 d_M_bitsOf_10 rfl ?_
    refine ab_iload_n 12 d_M_bitsOf_11 rfl ?_
    refine ab_iload_n 13 d_M_bitsOf_12 rfl ?_
    refine ab_ishr 14 d_M_bitsOf_13 ?_
    refine ab_iconst 15 d_M_bitsOf_14 (1 : Int32) (by decide) ?_
    refine ab_iand 16 d_M_bitsOf_15 ?_
    refine ab_iadd 17 d_M_bitsOf_16 ?_
    refine ab_istore_n 18 [(1, _), (0, _), (2, _)] d_M_bitsOf_17 rfl ?_
    refine ab_iinc 21 [(2, _), (1, _), (0, _)] d_M_bitsOf_18 (1 : Int32) (by decide) rfl rfl ?_
    refine ab_goto 4 d_M_bitsOf_21 ?_
    refine ab_pick [2, 1, 0] [(0, _), (1, _), (2, _)] rfl ?_
    exact hrec4 v0 (v1 + ((v0 >>> (v2 &&& 31)) &&& (1 : Int32))) (v2 + (1 : Int32)) hyp
theorem q_M_bitsOf_L4 {l : Launch} {D : va_G} {B : Nat} {ad : Nat → Nat} {r : Int32} (M : Me) : ∀ (F : Nat) (v0 : Int32) (v1 : Int32) (v2 : Int32) , M_bitsOf_L4 M F v0 v1 v2 = some r → ab_V (ab_km l D B ad y_M_bitsOf rm_M_bitsOf (.ok (some (.int r))) (lay M)) ad 4 [(0, .int v0), (1, .int v1), (2, .int v2)] [] (lay M) 0 0 := by
  intro F
  induction F with
  | zero =>
    intro v0 v1 v2 hyp
    have h2 : (none : Option Int32) = some r := hyp
    cases h2
  | succ F ih =>
    intro v0 v1 v2 hyp
    exact q_M_bitsOf_b4 M (M_bitsOf_L4 M F) ih v0 v1 v2 hyp
theorem c_M_bitsOf {M : Me} {v0 : Int32} {r : Int32} (hyp : M_bitsOf M v0 = some r) : ab_Met y_M_bitsOf rm_M_bitsOf [.int v0] (lay M) (.ok (some (.int r))) (lay M) := by
  refine ab_start rfl rfl (Nat.le_of_ble_eq_true rfl) (fun l D B ad => ?_)
  show ab_V _ ad 0 [(0, .int v0)] [] _ 0 0
  unfold M_bitsOf at hyp
  refine ab_iconst 1 d_M_bitsOf_0 (0 : Int32) (by decide) ?_
  refine ab_istore_n 2 [(1, _), (0, _)] d_M_bitsOf_1 rfl ?_
  refine ab_iconst 3 d_M_bitsOf_2 (0 : Int32) (by decide) ?_
  refine ab_istore_n 4 [(2, _), (1, _), (0, _)] d_M_bitsOf_3 rfl ?_
  refine ab_pick [2, 1, 0] [(0, _), (1, _), (2, _)] rfl ?_
  exact q_M_bitsOf_L4 M 64 v0 (0 : Int32) (0 : Int32) hyp
/-! M_nextBull -/
def M_nextBull_b3 (M : Me) (rec3 : Int32 → Int32 → Int64 → Int32 → Option Int32) (v1 : Int32) (v3 : Int32) (v4 : Int64) (v6 : Int32) : Option Int32 :=
  if (gF M 5) ≤ v6 then (some v6) else (Option.bind (M_isBull M v6) (fun r3 => if r3 = (0 : Int32) then (rec3 v1 v3 v4 (v6 + (1 : Int32))) else (gd (inb v6 24) (if v3 ≤ (gI M 23 v6) then (rec3 v1 v3 v4 (v6 + (1 : Int32))) else (Option.bind (M_kinOf M v1 v6) (fun r8 => if r8 ≤ v4 then (some v6) else (rec3 v1 v3 v4 (v6 + (1 : Int32)))))))))
def M_nextBull_L3 (M : Me) : Nat → Int32 → Int32 → Int64 → Int32 → Option Int32
  | 0, _, _, _, _ => none
  | F + 1, v1, v3, v4, v6 => M_nextBull_b3 M (M_nextBull_L3 M F) v1 v3 v4 v6
def M_nextBull (M : Me) (v1 : Int32) (v2 : Int32) (v3 : Int32) (v4 : Int64) : Option Int32 :=
  M_nextBull_L3 M 64 v1 v3 v4 v2
def rm_M_nextBull : Room := { frames := 1, locals := 22, cells := 0, slots := 0 }
theorem q_M_nextBull_b3 {l : Launch} {D : va_G} {B : Nat} {ad : Nat → Nat} {r : Int32} (M : Me) (rec3 : Int32 → Int32 → Int64 → Int32 → Option Int32) (hrec3 : ∀ (v1 : Int32) (v3 : Int32) (v4 : Int64) (v6 : Int32) , rec3 v1 v3 v4 v6 = some r → ab_V (ab_km l D B ad y_M_nextBull rm_M_nextBull (.ok (some (.int r))) (lay M)) ad 3 [(0, .ref 3), (1, .int v1), (3, .int v3), (4, .long v4), (6, .int v6)] [] (lay M) 0 0) (v1 : Int32) (v3 : Int32) (v4 : Int64) (v6 : Int32) (hyp : M_nextBull_b3 M rec3 v1 v3 v4 v6 = some r) : ab_V (ab_km l D B ad y_M_nextBull rm_M_nextBull (.ok (some (.int r))) (lay M)) ad 3 [(0, .ref 3), (1, .int v1), (3, .int v3), (4, .long v4), (6, .int v6)] [] (lay M) 0 0 := by
  unfold M_nextBull_b3 at hyp
  refine ab_iload 5 d_M_nextBull_3 rfl ?_
  refine ab_aload_n 6 d_M_nextBull_5 rfl ?_
  refine ab_get 9 d_M_nextBull_6 fd_25 rfl rfl ?_
  refine ab_ic_ge 51 12 d_M_nextBull_9 (fun z1 => ?_) (fun z1 => ?_)
  · replace hyp := ab_pos z1 hyp
    refine ab_iload 53 d_M_nextBull_51 rfl ?_
    cases hyp
    exact ab_ireturn d_M_nextBull_53 rfl rfl rfl (Nat.le_of_ble_eq_true rfl) (Nat.le_of_ble_eq_true rfl)
  · replace hyp := ab_neg z1 hyp
    refine ab_aload_n 13 d_M_nextBull_12 rfl ?_
    refine ab_iload 15 d_M_nextBull_13 rfl ?_
    obtain ⟨r3, hc2, hyp⟩ := ab_bind hyp
    refine ab_callV (h' := lay M) 18 0 0 [] [.int r3] d_M_nextBull_15 ok_M_isBull lk_62 (c_M_isBull hc2) rfl rfl ?_
    refine ab_if_eq 45 21 d_M_nextBull_18 (fun z4 => ?_) (fun z4 => ?_)
    · replace hyp := ab_pos z4 hyp
      refine ab_iinc 48 [(6, _), (0, _), (1, _), (3, _), (4, _)] d_M_nextBull_45 (1 : Int32) (by decide) rfl rfl ?_
      refine ab_goto 3 d_M_nextBull_48 ?_
      refine ab_pick [1, 2, 3, 4, 0] [(0, _), (1, _), (3, _), (4, _), (6, _)] rfl ?_
      exact hrec3 v1 v3 v4 (v6 + (1 : Int32)) hyp
    · replace hyp := ab_neg z4 hyp
      refine ab_aload_n 22 d_M_nextBull_21 rfl ?_
      refine ab_get 25 d_M_nextBull_22 fd_36 rfl rfl ?_
      refine ab_iload 27 d_M_nextBull_25 rfl ?_
      obtain ⟨g5, hyp⟩ := ab_gd hyp
      refine ab_ild 23 24 28 d_M_nextBull_27 rfl g5 ?_
      refine ab_iload_n 29 d_M_nextBull_28 rfl ?_
      refine ab_ic_ge 45 32 d_M_nextBull_29 (fun z6 => ?_) (fun z6 => ?_)
      · replace hyp := ab_pos z6 hyp
        refine ab_iinc 48 [(6, _), (0, _), (1, _), (3, _), (4, _)] d_M_nextBull_45 (1 : Int32) (by decide) rfl rfl ?_
        refine ab_goto 3 d_M_nextBull_48 ?_
        refine ab_pick [1, 2, 3, 4, 0] [(0, _), (1, _), (3, _), (4, _), (6, _)] rfl ?_
        exact hrec3 v1 v3 v4 (v6 + (1 : Int32)) hyp
      · replace hyp := ab_neg z6 hyp
        refine ab_aload_n 33 d_M_nextBull_32 rfl ?_
        refine ab_iload_n 34 d_M_nextBull_33 rfl ?_
        refine ab_iload 36 d_M_nextBull_34 rfl ?_
        obtain ⟨r8, hc7, hyp⟩ := ab_bind hyp
        refine ab_callV (h' := lay M) 39 0 0 [] [.long r8] d_M_nextBull_36 ok_M_kinOf lk_52 (c_M_kinOf hc7) rfl rfl ?_
        refine ab_lload 41 d_M_nextBull_39 rfl ?_
        refine ab_lc_le 51 42 45 d_M_nextBull_41 d_M_nextBull_42 (fun z9 => ?_) (fun z9 => ?_)
        · replace hyp := ab_pos z9 hyp
          refine ab_iload 53 d_M_nextBull_51 rfl ?_
          cases hyp
          exact ab_ireturn d_M_nextBull_53 rfl rfl rfl (Nat.le_of_ble_eq_true rfl) (Nat.le_of_ble_eq_true rfl)
        · replace hyp := ab_neg z9 hyp
          refine ab_iinc 48 [(6, _), (0, _), (1, _), (3, _), (4, _)] d_M_nextBull_45 (1 : Int32) (by decide) rfl rfl ?_
          refine ab_goto 3 d_M_nextBull_48 ?_
          refine ab_pick [1, 2, 3, 4, 0] [(0, _), (1, _), (3, _), (4, _), (6, _)] rfl ?_
          exact hrec3 v1 v3 v4 (v6 + (1 : Int32)) hyp
theorem q_M_nextBull_L3 {l : Launch} {D : va_G} {B : Nat} {ad : Nat → Nat} {r : Int32} (M : Me) : ∀ (F : Nat) (v1 : Int32) (v3 : Int32) (v4 : Int64) (v6 : Int32) , M_nextBull_L3 M F v1 v3 v4 v6 = some r → ab_V (ab_km l D B ad y_M_nextBull rm_M_nextBull (.ok (some (.int r))) (lay M)) ad 3 [(0, .ref 3), (1, .int v1), (3, .int v3), (4, .long v4), (6, .int v6)] [] (lay M) 0 0 := by
  intro F
  induction F with
  | zero =>
    intro v1 v3 v4 v6 hyp
    have h2 : (none : Option Int32) = some r := hyp
    cases h2
  | succ F ih =>
    intro v1 v3 v4 v6 hyp
    exact q_M_nextBull_b3 M (M_nextBull_L3 M F) ih v1 v3 v4 v6 hyp
theorem c_M_nextBull {M : Me} {v1 : Int32} {v2 : Int32} {v3 : Int32} {v4 : Int64} {r : Int32} (hyp : M_nextBull M v1 v2 v3 v4 = some r) : ab_Met y_M_nextBull rm_M_nextBull [.ref 3, .int v1, .int v2, .int v3, .long v4] (lay M) (.ok (some (.int r))) (lay M) := by
  refine ab_start rfl rfl (Nat.le_of_ble_eq_true rfl) (fun l D B ad => ?_)
  show ab_V _ ad 0 [(0, .ref 3), (1, .int v1), (2, .int v2), (3, .int v3), (4, .long v4)] [] _ 0 0
  unfold M_nextBull at hyp
  refine ab_iload_n 1 d_M_nextBull_0 rfl ?_
  refine ab_istore 3 [(6, _), (0, _), (1, _), (2, _), (3, _), (4, _)] d_M_nextBull_1 rfl ?_
  refine ab_pick [1, 2, 4, 5, 0] [(0, _), (1, _), (3, _), (4, _), (6, _)] rfl ?_
  exact q_M_nextBull_L3 M 64 v1 v3 v4 v2 hyp
/-! M_leastFrom -/
def M_leastFrom_b21 (M : Me) (rec6 : Int64 → Int64 → Int32 → Option Int64) (rec21 : Int64 → Int64 → Int32 → Int64 → Int32 → Option Int64) (v2 : Int64) (v4 : Int64) (v6 : Int32) (v7 : Int64) (v9 : Int32) : Option Int64 :=
  if (gF M 5) ≤ v9 then (rec6 v2 (v4 + v7) (v6 + (1 : Int32))) else (Option.bind (M_isBull M v9) (fun r3 => if r3 = (0 : Int32) then (rec21 v2 v4 v6 v7 (v9 + (1 : Int32))) else (gd (inb v6 5) (Option.bind (M_kinOf M (gI M 20 v6) v9) (fun r7 => if v7 ≤ r7 then (rec21 v2 v4 v6 v7 (v9 + (1 : Int32))) else (gd (inb v6 5) (Option.bind (M_kinOf M (gI M 20 v6) v9) (fun r11 => rec21 v2 v4 v6 r11 (v9 + (1 : Int32))))))))))
def M_leastFrom_L21 (M : Me) (rec6 : Int64 → Int64 → Int32 → Option Int64) : Nat → Int64 → Int64 → Int32 → Int64 → Int32 → Option Int64
  | 0, _, _, _, _, _ => none
  | F + 1, v2, v4, v6, v7, v9 => M_leastFrom_b21 M rec6 (M_leastFrom_L21 M rec6 F) v2 v4 v6 v7 v9
def M_leastFrom_b6 (M : Me) (rec6 : Int64 → Int64 → Int32 → Option Int64) (v2 : Int64) (v4 : Int64) (v6 : Int32) : Option Int64 :=
  if (gF M 7) ≤ v6 then (some v4) else (M_leastFrom_L21 M rec6 64 v2 v4 v6 v2 (0 : Int32))
def M_leastFrom_L6 (M : Me) : Nat → Int64 → Int64 → Int32 → Option Int64
  | 0, _, _, _ => none
  | F + 1, v2, v4, v6 => M_leastFrom_b6 M (M_leastFrom_L6 M F) v2 v4 v6
def M_leastFrom (M : Me) (v1 : Int32) (v2 : Int64) : Option Int64 :=
  M_leastFrom_L6 M 64 v2 (0 : Int64) v1
def rm_M_leastFrom : Room := { frames := 1, locals := 22, cells := 0, slots := 0 }
theorem q_M_leastFrom_b21 {l : Launch} {D : va_G} {B : Nat} {ad : Nat → Nat} {r : Int64} (M : Me) (rec6 : Int64 → Int64 → Int32 → Option Int64) (hrec6 : ∀ (v2 : Int64) (v4 : Int64) (v6 : Int32) , rec6 v2 v4 v6 = some r → ab_V (ab_km l D B ad y_M_leastFrom rm_M_leastFrom (.ok (some (.long r))) (lay M)) ad 6 [(0, .ref 3), (2, .long v2), (4, .long v4), (6, .int v6)] [] (lay M) 0 0) (rec21 : Int64 → Int64 → Int32 → Int64 → Int32 → Option Int64) (hrec21 : ∀ (v2 : Int64) (v4 : Int64) (v6 : Int32) (v7 : Int64) (v9 : Int32) , rec21 v2 v4 v6 v7 v9 = some r → ab_V (ab_km l D B ad y_M_leastFrom rm_M_leastFrom (.ok (some (.long r))) (lay M)) ad 21 [(0, .ref 3), (2, .long v2), (4, .long v4), (6, .int v6), (7, .long v7), (9, .int v9)] [] (lay M) 0 0) (v2 : Int64) (v4 : Int64) (v6 : Int32) (v7 : Int64) (v9 : Int32) (hyp : M_leastFrom_b21 M rec6 rec21 v2 v4 v6 v7 v9 = some r) : ab_V (ab_km l D B ad y_M_leastFrom rm_M_leastFrom (.ok (some (.long r))) (lay M)) ad 21 [(0, .ref 3), (2, .long v2), (4, .long v4), (6, .int v6), (7, .long v7), (9, .int v9)] [] (lay M) 0 0 := by
  unfold M_leastFrom_b21 at hyp
  refine ab_iload 23 d_M_leastFrom_21 rfl ?_
  refine ab_aload_n 24 d_M_leastFrom_23 rfl ?_
  refine ab_get 27 d_M_leastFrom_24 fd_25 rfl rfl ?_
  refine ab_ic_ge 84 30 d_M_leastFrom_27 (fun z1 => ?_) (fun z1 => ?_)
  · replace hyp := ab_pos z1 hyp
    refine ab_lload 86 d_M_leastFrom_84 rfl ?_
    refine ab_lload 88 d_M_leastFrom_86 rfl ?_
    refine ab_ladd 89 d_M_leastFrom_88 ?_
    refine ab_lstore 91 [(4, _), (0, _), (2, _), (6, _), (7, _), (9, _)] d_M_leastFrom_89 rfl ?_
    refine ab_iinc 94 [(6, _), (4, _), (0, _), (2, _), (7, _), (9, _)] d_M_leastFrom_91 (1 : Int32) (by decide) rfl rfl ?_
    refine ab_goto 6 d_M_leastFrom_94 ?_
    refine ab_pick [2, 3, 1, 0] [(0, _), (2, _), (4, _), (6, _)] rfl ?_
    exact hrec6 v2 (v4 + v7) (v6 + (1 : Int32)) hyp
  · replace hyp := ab_neg z1 hyp
    refine ab_aload_n 31 d_M_leastFrom_30 rfl ?_
    refine ab_iload 33 d_M_leastFrom_31 rfl ?_
    obtain ⟨r3, hc2, hyp⟩ := ab_bind hyp
    refine ab_callV (h' := lay M) 36 0 0 [] [.int r3] d_M_leastFrom_33 ok_M_isBull lk_62 (c_M_isBull hc2) rfl rfl ?_
    refine ab_if_eq 74 39 d_M_leastFrom_36 (fun z4 => ?_) (fun z4 => ?_)
    · replace hyp := ab_pos z4 hyp
      refine ab_lload 76 d_M_leastFrom_74 rfl ?_
      refine ab_lstore 78 [(7, _), (0, _), (2, _), (4, _), (6, _), (9, _)] d_M_leastFrom_76 rfl ?_
      refine ab_iinc 81 [(9, _), (7, _), (0, _), (2, _), (4, _), (6, _)] d_M_leastFrom_78 (1 : Int32) (by decide) rfl rfl ?_
      refine ab_goto 21 d_M_leastFrom_81 ?_
      refine ab_pick [2, 3, 4, 5, 1, 0] [(0, _), (2, _), (4, _), (6, _), (7, _), (9, _)] rfl ?_
      exact hrec21 v2 v4 v6 v7 (v9 + (1 : Int32)) hyp
    · replace hyp := ab_neg z4 hyp
      refine ab_aload_n 40 d_M_leastFrom_39 rfl ?_
      refine ab_aload_n 41 d_M_leastFrom_40 rfl ?_
      refine ab_get 44 d_M_leastFrom_41 fd_38 rfl rfl ?_
      refine ab_iload 46 d_M_leastFrom_44 rfl ?_
      obtain ⟨g5, hyp⟩ := ab_gd hyp
      refine ab_ild 20 5 47 d_M_leastFrom_46 rfl g5 ?_
      refine ab_iload 49 d_M_leastFrom_47 rfl ?_
      obtain ⟨r7, hc6, hyp⟩ := ab_bind hyp
      refine ab_callV (h' := lay M) 52 0 0 [] [.long r7] d_M_leastFrom_49 ok_M_kinOf lk_52 (c_M_kinOf hc6) rfl rfl ?_
      refine ab_lload 54 d_M_leastFrom_52 rfl ?_
      refine ab_lc_ge 74 55 58 d_M_leastFrom_54 d_M_leastFrom_55 (fun z8 => ?_) (fun z8 => ?_)
      · replace hyp := ab_pos z8 hyp
        refine ab_lload 76 d_M_leastFrom_74 rfl ?_
        refine ab_lstore 78 [(7, _), (0, _), (2, _), (4, _), (6, _), (9, _)] d_M_leastFrom_76 rfl ?_
        refine ab_iinc 81 [(9, _), (7, _), (0, _), (2, _), (4, _), (6, _)] d_M_leastFrom_78 (1 : Int32) (by decide) rfl rfl ?_
        refine ab_goto 21 d_M_leastFrom_81 ?_
        refine ab_pick [2, 3, 4, 5, 1, 0] [(0, _), (2, _), (4, _), (6, _), (7, _), (9, _)] rfl ?_
        exact hrec21 v2 v4 v6 v7 (v9 + (1 : Int32)) hyp
      · replace hyp := ab_neg z8 hyp
        refine ab_aload_n 59 d_M_leastFrom_58 rfl ?_
        refine ab_aload_n 60 d_M_leastFrom_59 rfl ?_
        refine ab_get 63 d_M_leastFrom_60 fd_38 rfl rfl ?_
        refine ab_iload 65 d_M_leastFrom_63 rfl ?_
        obtain ⟨g9, hyp⟩ := ab_gd hyp
        refine ab_ild 20 5 66 d_M_leastFrom_65 rfl g9 ?_
        refine ab_iload 68 d_M_leastFrom_66 rfl ?_
        obtain ⟨r11, hc10, hyp⟩ := ab_bind hyp
        refine ab_callV (h' := lay M) 71 0 0 [] [.long r11] d_M_leastFrom_68 ok_M_kinOf lk_52 (c_M_kinOf hc10) rfl rfl ?_
        refine ab_goto 76 d_M_leastFrom_71 ?_
        refine ab_lstore 78 [(7, _), (0, _), (2, _), (4, _), (6, _), (9, _)] d_M_leastFrom_76 rfl ?_
        refine ab_iinc 81 [(9, _), (7, _), (0, _), (2, _), (4, _), (6, _)] d_M_leastFrom_78 (1 : Int32) (by decide) rfl rfl ?_
        refine ab_goto 21 d_M_leastFrom_81 ?_
        refine ab_pick [2, 3, 4, 5, 1, 0] [(0, _), (2, _), (4, _), (6, _), (7, _), (9, _)] rfl ?_
        exact hrec21 v2 v4 v6 r11 (v9 + (1 : Int32)) hyp
theorem q_M_leastFrom_L21 {l : Launch} {D : va_G} {B : Nat} {ad : Nat → Nat} {r : Int64} (M : Me) (rec6 : Int64 → Int64 → Int32 → Option Int64) (hrec6 : ∀ (v2 : Int64) (v4 : Int64) (v6 : Int32) , rec6 v2 v4 v6 = some r → ab_V (ab_km l D B ad y_M_leastFrom rm_M_leastFrom (.ok (some (.long r))) (lay M)) ad 6 [(0, .ref 3), (2, .long v2), (4, .long v4), (6, .int v6)] [] (lay M) 0 0) : ∀ (F : Nat) (v2 : Int64) (v4 : Int64) (v6 : Int32) (v7 : Int64) (v9 : Int32) , M_leastFrom_L21 M rec6 F v2 v4 v6 v7 v9 = some r → ab_V (ab_km l D B ad y_M_leastFrom rm_M_leastFrom (.ok (some (.long r))) (lay M)) ad 21 [(0, .ref 3), (2, .long v2), (4, .long v4), (6, .int v6), (7, .long v7), (9, .int v9)] [] (lay M) 0 0 := by
  intro F
  induction F with
  | zero =>
    intro v2 v4 v6 v7 v9 hyp
    have h2 : (none : Option Int64) = some r := hyp
    cases h2
  | succ F ih =>
    intro v2 v4 v6 v7 v9 hyp
    exact q_M_leastFrom_b21 M rec6 hrec6 (M_leastFrom_L21 M rec6 F) ih v2 v4 v6 v7 v9 hyp
theorem q_M_leastFrom_b6 {l : Launch} {D : va_G} {B : Nat} {ad : Nat → Nat} {r : Int64} (M : Me) (rec6 : Int64 → Int64 → Int32 → Option Int64) (hrec6 : ∀ (v2 : Int64) (v4 : Int64) (v6 : Int32) , rec6 v2 v4 v6 = some r → ab_V (ab_km l D B ad y_M_leastFrom rm_M_leastFrom (.ok (some (.long r))) (lay M)) ad 6 [(0, .ref 3), (2, .long v2), (4, .long v4), (6, .int v6)] [] (lay M) 0 0) (v2 : Int64) (v4 : Int64) (v6 : Int32) (hyp : M_leastFrom_b6 M rec6 v2 v4 v6 = some r) : ab_V (ab_km l D B ad y_M_leastFrom rm_M_leastFrom (.ok (some (.long r))) (lay M)) ad 6 [(0, .ref 3), (2, .long v2), (4, .long v4), (6, .int v6)] [] (lay M) 0 0 := by
  unfold M_leastFrom_b6 at hyp
  refine ab_iload 8 d_M_leastFrom_6 rfl ?_
  refine ab_aload_n 9 d_M_leastFrom_8 rfl ?_
  refine ab_get 12 d_M_leastFrom_9 fd_37 rfl rfl ?_
  refine ab_ic_ge 97 15 d_M_leastFrom_12 (fun z1 => ?_) (fun z1 => ?_)
  · replace hyp := ab_pos z1 hyp
    refine ab_lload 99 d_M_leastFrom_97 rfl ?_
    cases hyp
    exact ab_lreturn d_M_leastFrom_99 rfl rfl rfl (Nat.le_of_ble_eq_true rfl) (Nat.le_of_ble_eq_true rfl)
  · replace hyp := ab_neg z1 hyp
    refine ab_lload_n 16 d_M_leastFrom_15 rfl ?_
    refine ab_lstore 18 [(7, _), (0, _), (2, _), (4, _), (6, _)] d_M_leastFrom_16 rfl ?_
    refine ab_iconst 19 d_M_leastFrom_18 (0 : Int32) (by decide) ?_
    refine ab_istore 21 [(9, _), (7, _), (0, _), (2, _), (4, _), (6, _)] d_M_leastFrom_19 rfl ?_
    refine ab_pick [2, 3, 4, 5, 1, 0] [(0, _), (2, _), (4, _), (6, _), (7, _), (9, _)] rfl ?_
    exact q_M_leastFrom_L21 M rec6 hrec6 64 v2 v4 v6 v2 (0 : Int32) hyp
theorem q_M_leastFrom_L6 {l : Launch} {D : va_G} {B : Nat} {ad : Nat → Nat} {r : Int64} (M : Me) : ∀ (F : Nat) (v2 : Int64) (v4 : Int64) (v6 : Int32) , M_leastFrom_L6 M F v2 v4 v6 = some r → ab_V (ab_km l D B ad y_M_leastFrom rm_M_leastFrom (.ok (some (.long r))) (lay M)) ad 6 [(0, .ref 3), (2, .long v2), (4, .long v4), (6, .int v6)] [] (lay M) 0 0 := by
  intro F
  induction F with
  | zero =>
    intro v2 v4 v6 hyp
    have h2 : (none : Option Int64) = some r := hyp
    cases h2
  | succ F ih =>
    intro v2 v4 v6 hyp
    exact q_M_leastFrom_b6 M (M_leastFrom_L6 M F) ih v2 v4 v6 hyp
theorem c_M_leastFrom {M : Me} {v1 : Int32} {v2 : Int64} {r : Int64} (hyp : M_leastFrom M v1 v2 = some r) : ab_Met y_M_leastFrom rm_M_leastFrom [.ref 3, .int v1, .long v2] (lay M) (.ok (some (.long r))) (lay M) := by
  refine ab_start rfl rfl (Nat.le_of_ble_eq_true rfl) (fun l D B ad => ?_)
  show ab_V _ ad 0 [(0, .ref 3), (1, .int v1), (2, .long v2)] [] _ 0 0
  unfold M_leastFrom at hyp
  refine ab_lconst 1 d_M_leastFrom_0 (0 : Int64) (by decide) ?_
  refine ab_lstore 3 [(4, _), (0, _), (1, _), (2, _)] d_M_leastFrom_1 rfl ?_
  refine ab_iload_n 4 d_M_leastFrom_3 rfl ?_
  refine ab_istore 6 [(6, _), (4, _), (0, _), (1, _), (2, _)] d_M_leastFrom_4 rfl ?_
  refine ab_pick [2, 4, 1, 0] [(0, _), (2, _), (4, _), (6, _)] rfl ?_
  exact q_M_leastFrom_L6 M 64 v2 (0 : Int64) v1 hyp
