/-! P_nearestCommon -/
def P_nearestCommon_b18 (M : Me) (rec18 : Int32 → Int32 → Int32 → Option Int32) (v3 : Int32) (v4 : Int32) (v5 : Int32) : Option Int32 :=
  if (gF M 0) ≤ v5 then (some v4) else (if ((v3 >>> (v5 &&& 31)) &&& (1 : Int32)) = (0 : Int32) then (rec18 v3 v4 (v5 + (1 : Int32))) else (gd (inb v5 24) (rec18 v3 (v4 &&& ((gI M 3 v5) ^^^ (-1 : Int32))) (v5 + (1 : Int32)))))
def P_nearestCommon_L18 (M : Me) : Nat → Int32 → Int32 → Int32 → Option Int32
  | 0, _, _, _ => none
  | F + 1, v3, v4, v5 => P_nearestCommon_b18 M (P_nearestCommon_L18 M F) v3 v4 v5
def P_nearestCommon (M : Me) (v1 : Int32) (v2 : Int32) : Option Int32 :=
  Option.bind (P_withForebears M v1) (fun r2 => Option.bind (P_withForebears M v2) (fun r4 => P_nearestCommon_L18 M 64 (r2 &&& r4) (r2 &&& r4) (0 : Int32)))
def rm_P_nearestCommon : Room := { frames := 1, locals := 21, cells := 0, slots := 0 }
theorem q_P_nearestCommon_b18 {l : Launch} {D : va_G} {B : Nat} {ad : Nat → Nat} {r : Int32} (M : Me) (rec18 : Int32 → Int32 → Int32 → Option Int32) (hrec18 : ∀ (v3 : Int32) (v4 : Int32) (v5 : Int32) , rec18 v3 v4 v5 = some r → ab_V (ab_km l D B ad y_P_nearestCommon rm_P_nearestCommon (.ok (some (.int r))) (lay M)) ad 18 [(0, .ref 1), (3, .int v3), (4, .int v4), (5, .int v5)] [] (lay M) 0 0) (v3 : Int32) (v4 : Int32) (v5 : Int32) (hyp : P_nearestCommon_b18 M rec18 v3 v4 v5 = some r) : ab_V (ab_km l D B ad y_P_nearestCommon rm_P_nearestCommon (.ok (some (.int r))) (lay M)) ad 18 [(0, .ref 1), (3, .int v3), (4, .int v4), (5, .int v5)] [] (lay M) 0 0 := by
  unfold P_nearestCommon_b18 at hyp
  refine ab_iload 20 d_P_nearestCommon_18 rfl ?_
  refine ab_aload_n 21 d_P_nearestCommon_20 rfl ?_
  refine ab_get 24 d_P_nearestCommon_21 fd_0 rfl rfl ?_
  refine ab_ic_ge 56 27 d_P_nearestCommon_24 (fun z1 => ?_) (fun z1 => ?_)
  · replace hyp := ab_pos z1 hyp
    refine ab_iload 58 d_P_nearestCommon_56 rfl ?_
    cases hyp
    exact ab_ireturn d_P_nearestCommon_58 rfl rfl rfl (Nat.le_of_ble_eq_true rfl) (Nat.le_of_ble_eq_true rfl)
  · replace hyp := ab_neg z1 hyp
    refine ab_iload_n 28 d_P_nearestCommon_27 rfl ?_
    refine ab_iload 30 d_P_nearestCommon_28 rfl ?_
    refine ab_ishr 31 d_P_nearestCommon_30 ?_
    refine ab_iconst 32 d_P_nearestCommon_31 (1 : Int32) (by decide) ?_
    refine ab_iand 33 d_P_nearestCommon_32 ?_
    refine ab_if_eq 50 36 d_P_nearestCommon_33 (fun z2 => ?_) (fun z2 => ?_)
    · replace hyp := ab_pos z2 hyp
      refine ab_iinc 53 [(5, _), (0, _), (3, _), (4, _)] d_P_nearestCommon_50 (1 : Int32) (by decide) rfl rfl ?_
      refine ab_goto 18 d_P_nearestCommon_53 ?_
      refine ab_pick [1, 2, 3, 0] [(0, _), (3, _), (4, _), (5, _)] rfl ?_
      exact hrec18 v3 v4 (v5 + (1 : Int32)) hyp
    · replace hyp := ab_neg z2 hyp
      refine ab_iload 38 d_P_nearestCommon_36 rfl ?_
      refine ab_aload_n 39 d_P_nearestCommon_38 rfl ?_
      refine ab_get 42 d_P_nearestCommon_39 fd_7 rfl rfl ?_
      refine ab_iload 44 d_P_nearestCommon_42 rfl ?_
      obtain ⟨g3, hyp⟩ := ab_gd hyp
      refine ab_ild 3 24 45 d_P_nearestCommon_44 rfl g3 ?_
      refine ab_iconst 46 d_P_nearestCommon_45 (-1 : Int32) (by decide) ?_
      refine ab_ixor 47 d_P_nearestCommon_46 ?_
      refine ab_iand 48 d_P_nearestCommon_47 ?_
      refine ab_istore 50 [(4, _), (0, _), (3, _), (5, _)] d_P_nearestCommon_48 rfl ?_
      refine ab_iinc 53 [(5, _), (4, _), (0, _), (3, _)] d_P_nearestCommon_50 (1 : Int32) (by decide) rfl rfl ?_
      refine ab_goto 18 d_P_nearestCommon_53 ?_
      refine ab_pick [2, 3, 1, 0] [(0, _), (3, _), (4, _), (5, _)] rfl ?_
      exact hrec18 v3 (v4 &&& ((gI M 3 v5) ^^^ (-1 : Int32))) (v5 + (1 : Int32)) hyp
theorem q_P_nearestCommon_L18 {l : Launch} {D : va_G} {B : Nat} {ad : Nat → Nat} {r : Int32} (M : Me) : ∀ (F : Nat) (v3 : Int32) (v4 : Int32) (v5 : Int32) , P_nearestCommon_L18 M F v3 v4 v5 = some r → ab_V (ab_km l D B ad y_P_nearestCommon rm_P_nearestCommon (.ok (some (.int r))) (lay M)) ad 18 [(0, .ref 1), (3, .int v3), (4, .int v4), (5, .int v5)] [] (lay M) 0 0 := by
  intro F
  induction F with
  | zero =>
    intro v3 v4 v5 hyp
    have h2 : (none : Option Int32) = some r := hyp
    cases h2
  | succ F ih =>
    intro v3 v4 v5 hyp
    exact q_P_nearestCommon_b18 M (P_nearestCommon_L18 M F) ih v3 v4 v5 hyp
theorem c_P_nearestCommon {M : Me} {v1 : Int32} {v2 : Int32} {r : Int32} (hyp : P_nearestCommon M v1 v2 = some r) : ab_Met y_P_nearestCommon rm_P_nearestCommon [.ref 1, .int v1, .int v2] (lay M) (.ok (some (.int r))) (lay M) := by
  refine ab_start rfl rfl (Nat.le_of_ble_eq_true rfl) (fun l D B ad => ?_)
  show ab_V _ ad 0 [(0, .ref 1), (1, .int v1), (2, .int v2)] [] _ 0 0
  unfold P_nearestCommon at hyp
  refine ab_aload_n 1 d_P_nearestCommon_0 rfl ?_
  refine ab_iload_n 2 d_P_nearestCommon_1 rfl ?_
  obtain ⟨r2, hc1, hyp⟩ := ab_bind hyp
  refine ab_callV (h' := lay M) 5 0 0 [] [.int r2] d_P_nearestCommon_2 ok_P_withForebears lk_7 (c_P_withForebears hc1) rfl rfl ?_
  refine ab_aload_n 6 d_P_nearestCommon_5 rfl ?_
  refine ab_iload_n 7 d_P_nearestCommon_6 rfl ?_
  obtain ⟨r4, hc3, hyp⟩ := ab_bind hyp
  refine ab_callV (h' := lay M) 10 0 0 [.int r2] [.int r4, .int r2] d_P_nearestCommon_7 ok_P_withForebears lk_7 (c_P_withForebears hc3) rfl rfl ?_
  refine ab_iand 11 d_P_nearestCommon_10 ?_
  refine ab_istore_n 12 [(3, _), (0, _), (1, _), (2, _)] d_P_nearestCommon_11 rfl ?_
  refine ab_iload_n 13 d_P_nearestCommon_12 rfl ?_
  refine ab_istore 15 [(4, _), (3, _), (0, _), (1, _), (2, _)] d_P_nearestCommon_13 rfl ?_
  refine ab_iconst 16 d_P_nearestCommon_15 (0 : Int32) (by decide) ?_
  refine ab_istore 18 [(5, _), (4, _), (3, _), (0, _), (1, _), (2, _)] d_P_nearestCommon_16 rfl ?_
  refine ab_pick [3, 2, 1, 0] [(0, _), (3, _), (4, _), (5, _)] rfl ?_
  exact q_P_nearestCommon_L18 M 64 (r2 &&& r4) (r2 &&& r4) (0 : Int32) hyp
/-! H_nearest -/
def H_nearest (M : Me) (v1 : Int32) (v2 : Int32) : Option (Except String Int32) :=
  ab_thrP (H_requireAnimal M v1) (fun r2 => ab_thrP (H_requireAnimal M v2) (fun r5 => Option.bind (P_nearestCommon M v1 v2) (fun r8 => some (.ok r8))) (fun E6 => some (.error E6))) (fun E3 => some (.error E3))
def rm_H_nearest : Room := { frames := 7, locals := 103, cells := 2, slots := 12 }
theorem c_H_nearest {M : Me} {v1 : Int32} {v2 : Int32} {r : Except String Int32} (hyp : H_nearest M v1 v2 = some r) : ab_Met y_H_nearest rm_H_nearest [.ref 0, .int v1, .int v2] (lay M) (Except.map (fun v => some (.int v)) r) (lay M) := by
  refine ab_start rfl rfl (Nat.le_of_ble_eq_true rfl) (fun l D B ad => ?_)
  show ab_V _ ad 0 [(0, .ref 0), (1, .int v1), (2, .int v2)] [] _ 0 0
  unfold H_nearest at hyp
  refine ab_aload_n 1 d_H_nearest_0 rfl ?_
  refine ab_iload_n 2 d_H_nearest_1 rfl ?_
  rcases ab_thrP_cases hyp with ⟨r2, hc1, hyp⟩ | ⟨E3, hc1, hyp⟩
  · refine ab_callV (h' := lay M) 5 1 6 [] [] d_H_nearest_2 ok_H_requireAnimal lk_2 (c_H_requireAnimal hc1) rfl rfl ?_
    refine ab_aload_n 6 d_H_nearest_5 rfl ?_
    refine ab_iload_n 7 d_H_nearest_6 rfl ?_
    rcases ab_thrP_cases hyp with ⟨r5, hc4, hyp⟩ | ⟨E6, hc4, hyp⟩
    · refine ab_callV (h' := lay M) 10 2 12 [] [] d_H_nearest_7 ok_H_requireAnimal lk_2 (c_H_requireAnimal hc4) rfl rfl ?_
      refine ab_aload_n 11 d_H_nearest_10 rfl ?_
      refine ab_get 14 d_H_nearest_11 fd_1 rfl rfl ?_
      refine ab_iload_n 15 d_H_nearest_14 rfl ?_
      refine ab_iload_n 16 d_H_nearest_15 rfl ?_
      obtain ⟨r8, hc7, hyp⟩ := ab_bind hyp
      refine ab_callV (h' := lay M) 19 2 12 [] [.int r8] d_H_nearest_16 ok_P_nearestCommon lk_31 (c_P_nearestCommon hc7) rfl rfl ?_
      cases hyp
      exact ab_ireturn d_H_nearest_19 rfl rfl rfl (Nat.le_of_ble_eq_true rfl) (Nat.le_of_ble_eq_true rfl)
    · cases hyp
      refine ab_callVX (h' := lay M) 2 12 [] d_H_nearest_7 ok_H_requireAnimal lk_2 (c_H_requireAnimal hc4) rfl rfl ?_
      exact ab_out rfl rfl rfl (Nat.le_of_ble_eq_true rfl) (Nat.le_of_ble_eq_true rfl)
  · cases hyp
    refine ab_callVX (h' := lay M) 1 6 [] d_H_nearest_2 ok_H_requireAnimal lk_2 (c_H_requireAnimal hc1) rfl rfl ?_
    exact ab_out rfl rfl rfl (Nat.le_of_ble_eq_true rfl) (Nat.le_of_ble_eq_true rfl)
/-! H_closest -/
def H_closest_b9 (M : Me) (rec9 : Int32 → Int32 → Int32 → Option (Except String Int32)) (v1 : Int32) (v2 : Int32) (v3 : Int32) : Option (Except String Int32) :=
  Option.bind (P_size M) (fun r2 => if r2 ≤ v3 then (some (.ok v2)) else (if v3 = v1 then (rec9 v1 v2 (v3 + (1 : Int32))) else (gd (inb v3 24) (if (gI M 7 v3) = (0 : Int32) then (rec9 v1 v2 (v3 + (1 : Int32))) else (if v2 = (-1 : Int32) then (rec9 v1 v3 (v3 + (1 : Int32))) else (Option.bind (P_kinOf M v1 v3) (fun r9 => Option.bind (P_kinOf M v1 v2) (fun r11 => if r9 ≤ r11 then (rec9 v1 v2 (v3 + (1 : Int32))) else (rec9 v1 v3 (v3 + (1 : Int32)))))))))))
def H_closest_L9 (M : Me) : Nat → Int32 → Int32 → Int32 → Option (Except String Int32)
  | 0, _, _, _ => none
  | F + 1, v1, v2, v3 => H_closest_b9 M (H_closest_L9 M F) v1 v2 v3
def H_closest (M : Me) (v1 : Int32) : Option (Except String Int32) :=
  ab_thrP (H_requireAnimal M v1) (fun r2 => H_closest_L9 M 64 v1 (-1 : Int32) (0 : Int32)) (fun E3 => some (.error E3))
def rm_H_closest : Room := { frames := 7, locals := 103, cells := 1, slots := 6 }
theorem q_H_closest_b9 {l : Launch} {D : va_G} {B : Nat} {ad : Nat → Nat} {r : Except String Int32} (M : Me) (rec9 : Int32 → Int32 → Int32 → Option (Except String Int32)) (hrec9 : ∀ (v1 : Int32) (v2 : Int32) (v3 : Int32) , rec9 v1 v2 v3 = some r → ab_V (ab_km l D B ad y_H_closest rm_H_closest (Except.map (fun v => some (.int v)) r) (lay M)) ad 9 [(0, .ref 0), (1, .int v1), (2, .int v2), (3, .int v3)] [] (lay M) 1 6) (v1 : Int32) (v2 : Int32) (v3 : Int32) (hyp : H_closest_b9 M rec9 v1 v2 v3 = some r) : ab_V (ab_km l D B ad y_H_closest rm_H_closest (Except.map (fun v => some (.int v)) r) (lay M)) ad 9 [(0, .ref 0), (1, .int v1), (2, .int v2), (3, .int v3)] [] (lay M) 1 6 := by
  unfold H_closest_b9 at hyp
  refine ab_iload_n 10 d_H_closest_9 rfl ?_
  refine ab_aload_n 11 d_H_closest_10 rfl ?_
  refine ab_get 14 d_H_closest_11 fd_1 rfl rfl ?_
  obtain ⟨r2, hc1, hyp⟩ := ab_bind hyp
  refine ab_callV (h' := lay M) 17 1 6 [.int v3] [.int r2, .int v3] d_H_closest_14 ok_P_size lk_0 (c_P_size hc1) rfl rfl ?_
  refine ab_ic_ge 69 20 d_H_closest_17 (fun z3 => ?_) (fun z3 => ?_)
  · replace hyp := ab_pos z3 hyp
    refine ab_iload_n 70 d_H_closest_69 rfl ?_
    cases hyp
    exact ab_ireturn d_H_closest_70 rfl rfl rfl (Nat.le_of_ble_eq_true rfl) (Nat.le_of_ble_eq_true rfl)
  · replace hyp := ab_neg z3 hyp
    refine ab_iload_n 21 d_H_closest_20 rfl ?_
    refine ab_iload_n 22 d_H_closest_21 rfl ?_
    refine ab_ic_eq 63 25 d_H_closest_22 (fun z4 => ?_) (fun z4 => ?_)
    · replace hyp := ab_pos z4 hyp
      refine ab_iinc 66 [(3, _), (0, _), (1, _), (2, _)] d_H_closest_63 (1 : Int32) (by decide) rfl rfl ?_
      refine ab_goto 9 d_H_closest_66 ?_
      refine ab_pick [1, 2, 3, 0] [(0, _), (1, _), (2, _), (3, _)] rfl ?_
      exact hrec9 v1 v2 (v3 + (1 : Int32)) hyp
    · replace hyp := ab_neg z4 hyp
      refine ab_aload_n 26 d_H_closest_25 rfl ?_
      refine ab_get 29 d_H_closest_26 fd_10 rfl rfl ?_
      refine ab_iload_n 30 d_H_closest_29 rfl ?_
      obtain ⟨g5, hyp⟩ := ab_gd hyp
      refine ab_zld 7 24 31 d_H_closest_30 rfl g5 ?_
      refine ab_if_eq 63 34 d_H_closest_31 (fun z6 => ?_) (fun z6 => ?_)
      · replace hyp := ab_pos z6 hyp
        refine ab_iinc 66 [(3, _), (0, _), (1, _), (2, _)] d_H_closest_63 (1 : Int32) (by decide) rfl rfl ?_
        refine ab_goto 9 d_H_closest_66 ?_
        refine ab_pick [1, 2, 3, 0] [(0, _), (1, _), (2, _), (3, _)] rfl ?_
        exact hrec9 v1 v2 (v3 + (1 : Int32)) hyp
      · replace hyp := ab_neg z6 hyp
        refine ab_iload_n 35 d_H_closest_34 rfl ?_
        refine ab_iconst 36 d_H_closest_35 (-1 : Int32) (by decide) ?_
        refine ab_ic_eq 61 39 d_H_closest_36 (fun z7 => ?_) (fun z7 => ?_)
        · replace hyp := ab_pos z7 hyp
          refine ab_iload_n 62 d_H_closest_61 rfl ?_
          refine ab_istore_n 63 [(2, _), (0, _), (1, _), (3, _)] d_H_closest_62 rfl ?_
          refine ab_iinc 66 [(3, _), (2, _), (0, _), (1, _)] d_H_closest_63 (1 : Int32) (by decide) rfl rfl ?_
          refine ab_goto 9 d_H_closest_66 ?_
          refine ab_pick [2, 3, 1, 0] [(0, _), (1, _), (2, _), (3, _)] rfl ?_
          exact hrec9 v1 v3 (v3 + (1 : Int32)) hyp
        · replace hyp := ab_neg z7 hyp
          refine ab_aload_n 40 d_H_closest_39 rfl ?_
          refine ab_get 43 d_H_closest_40 fd_1 rfl rfl ?_
          refine ab_iload_n 44 d_H_closest_43 rfl ?_
          refine ab_iload_n 45 d_H_closest_44 rfl ?_
          obtain ⟨r9, hc8, hyp⟩ := ab_bind hyp
          refine ab_callV (h' := lay M) 48 1 6 [] [.long r9] d_H_closest_45 ok_P_kinOf lk_18 (c_P_kinOf hc8) rfl rfl ?_
          refine ab_aload_n 49 d_H_closest_48 rfl ?_
          refine ab_get 52 d_H_closest_49 fd_1 rfl rfl ?_
          refine ab_iload_n 53 d_H_closest_52 rfl ?_
          refine ab_iload_n 54 d_H_closest_53 rfl ?_
          obtain ⟨r11, hc10, hyp⟩ := ab_bind hyp
          refine ab_callV (h' := lay M) 57 1 6 [.long r9] [.long r11, .long r9] d_H_closest_54 ok_P_kinOf lk_18 (c_P_kinOf hc10) rfl rfl ?_
          refine ab_lc_le 63 58 61 d_H_closest_57 d_H_closest_58 (fun z12 => ?_) (fun z12 => ?_)
          · replace hyp := ab_pos z12 hyp
            refine ab_iinc 66 [(3, _), (0, _), (1, _), (2, _)] d_H_closest_63 (1 : Int32) (by decide) rfl rfl ?_
            refine ab_goto 9 d_H_closest_66 ?_
            refine ab_pick [1, 2, 3, 0] [(0, _), (1, _), (2, _), (3, _)] rfl ?_
            exact hrec9 v1 v2 (v3 + (1 : Int32)) hyp
          · replace hyp := ab_neg z12 hyp
            refine ab_iload_n 62 d_H_closest_61 rfl ?_
            refine ab_istore_n 63 [(2, _), (0, _), (1, _), (3, _)] d_H_closest_62 rfl ?_
            refine ab_iinc 66 [(3, _), (2, _), (0, _), (1, _)] d_H_closest_63 (1 : Int32) (by decide) rfl rfl ?_
            refine ab_goto 9 d_H_closest_66 ?_
            refine ab_pick [2, 3, 1, 0] [(0, _), (1, _), (2, _), (3, _)] rfl ?_
            exact hrec9 v1 v3 (v3 + (1 : Int32)) hyp
theorem q_H_closest_L9 {l : Launch} {D : va_G} {B : Nat} {ad : Nat → Nat} {r : Except String Int32} (M : Me) : ∀ (F : Nat) (v1 : Int32) (v2 : Int32) (v3 : Int32) , H_closest_L9 M F v1 v2 v3 = some r → ab_V (ab_km l D B ad y_H_closest rm_H_closest (Except.map (fun v => some (.int v)) r) (lay M)) ad 9 [(0, .ref 0), (1, .int v1), (2, .int v2), (3, .int v3)] [] (lay M) 1 6 := by
  intro F
  induction F with
  | zero =>
    intro v1 v2 v3 hyp
    have h2 : (none : Option (Except String Int32)) = some r := hyp
    cases h2
  | succ F ih =>
    intro v1 v2 v3 hyp
    exact q_H_closest_b9 M (H_closest_L9 M F) ih v1 v2 v3 hyp
theorem c_H_closest {M : Me} {v1 : Int32} {r : Except String Int32} (hyp : H_closest M v1 = some r) : ab_Met y_H_closest rm_H_closest [.ref 0, .int v1] (lay M) (Except.map (fun v => some (.int v)) r) (lay M) := by
  refine ab_start rfl rfl (Nat.le_of_ble_eq_true rfl) (fun l D B ad => ?_)
  show ab_V _ ad 0 [(0, .ref 0), (1, .int v1)] [] _ 0 0
  unfold H_closest at hyp
  refine ab_aload_n 1 d_H_closest_0 rfl ?_
  refine ab_iload_n 2 d_H_closest_1 rfl ?_
  rcases ab_thrP_cases hyp with ⟨r2, hc1, hyp⟩ | ⟨E3, hc1, hyp⟩
  · refine ab_callV (h' := lay M) 5 1 6 [] [] d_H_closest_2 ok_H_requireAnimal lk_2 (c_H_requireAnimal hc1) rfl rfl ?_
    refine ab_iconst 6 d_H_closest_5 (-1 : Int32) (by decide) ?_
    refine ab_istore_n 7 [(2, _), (0, _), (1, _)] d_H_closest_6 rfl ?_
    refine ab_iconst 8 d_H_closest_7 (0 : Int32) (by decide) ?_
    refine ab_istore_n 9 [(3, _), (2, _), (0, _), (1, _)] d_H_closest_8 rfl ?_
    refine ab_pick [2, 3, 1, 0] [(0, _), (1, _), (2, _), (3, _)] rfl ?_
    exact q_H_closest_L9 M 64 v1 (-1 : Int32) (0 : Int32) hyp
  · cases hyp
    refine ab_callVX (h' := lay M) 1 6 [] d_H_closest_2 ok_H_requireAnimal lk_2 (c_H_requireAnimal hc1) rfl rfl ?_
    exact ab_out rfl rfl rfl (Nat.le_of_ble_eq_true rfl) (Nat.le_of_ble_eq_true rfl)
/-! H_isLiving -/
def H_isLiving (M : Me) (v1 : Int32) (v2 : Int32) : Option Int32 :=
  gd (inb v1 24) (if (gI M 7 v1) = (0 : Int32) then (some (0 : Int32)) else (gd (inb v1 24) (if (gI M 5 v1) = v2 then (some (1 : Int32)) else (some (0 : Int32)))))
def rm_H_isLiving : Room := { frames := 0, locals := 0, cells := 0, slots := 0 }
theorem c_H_isLiving {M : Me} {v1 : Int32} {v2 : Int32} {r : Int32} (hyp : H_isLiving M v1 v2 = some r) : ab_Met y_H_isLiving rm_H_isLiving [.ref 0, .int v1, .int v2] (lay M) (.ok (some (.int r))) (lay M) := by
  refine ab_start rfl rfl (Nat.le_of_ble_eq_true rfl) (fun l D B ad => ?_)
  show ab_V _ ad 0 [(0, .ref 0), (1, .int v1), (2, .int v2)] [] _ 0 0
  unfold H_isLiving at hyp
  refine ab_aload_n 1 d_H_isLiving_0 rfl ?_
  refine ab_get 4 d_H_isLiving_1 fd_10 rfl rfl ?_
  refine ab_iload_n 5 d_H_isLiving_4 rfl ?_
  obtain ⟨g1, hyp⟩ := ab_gd hyp
  refine ab_zld 7 24 6 d_H_isLiving_5 rfl g1 ?_
  refine ab_if_eq 23 9 d_H_isLiving_6 (fun z2 => ?_) (fun z2 => ?_)
  · replace hyp := ab_pos z2 hyp
    refine ab_iconst 24 d_H_isLiving_23 (0 : Int32) (by decide) ?_
    cases hyp
    exact ab_zreturn d_H_isLiving_24 rfl rfl rfl rfl (Nat.le_of_ble_eq_true rfl) (Nat.le_of_ble_eq_true rfl)
  · replace hyp := ab_neg z2 hyp
    refine ab_aload_n 10 d_H_isLiving_9 rfl ?_
    refine ab_get 13 d_H_isLiving_10 fd_2 rfl rfl ?_
    refine ab_iload_n 14 d_H_isLiving_13 rfl ?_
    obtain ⟨g3, hyp⟩ := ab_gd hyp
    refine ab_ild 5 24 15 d_H_isLiving_14 rfl g3 ?_
    refine ab_iload_n 16 d_H_isLiving_15 rfl ?_
    refine ab_ic_ne 23 19 d_H_isLiving_16 (fun z4 => ?_) (fun z4 => ?_)
    · replace hyp := ab_neg z4 hyp
      refine ab_iconst 24 d_H_isLiving_23 (0 : Int32) (by decide) ?_
      cases hyp
      exact ab_zreturn d_H_isLiving_24 rfl rfl rfl rfl (Nat.le_of_ble_eq_true rfl) (Nat.le_of_ble_eq_true rfl)
    · replace hyp := ab_pos z4 hyp
      refine ab_iconst 20 d_H_isLiving_19 (1 : Int32) (by decide) ?_
      refine ab_goto 24 d_H_isLiving_20 ?_
      cases hyp
      exact ab_zreturn d_H_isLiving_24 rfl rfl rfl rfl (Nat.le_of_ble_eq_true rfl) (Nat.le_of_ble_eq_true rfl)
/-! H_bestBull -/
def H_bestBull_b9 (M : Me) (rec9 : Int32 → Int32 → Int32 → Option (Except String Int32)) (v1 : Int32) (v2 : Int32) (v3 : Int32) : Option (Except String Int32) :=
  Option.bind (P_size M) (fun r2 => if r2 ≤ v3 then (some (.ok v2)) else (Option.bind (H_isLiving M v3 (0 : Int32)) (fun r5 => if r5 = (0 : Int32) then (rec9 v1 v2 (v3 + (1 : Int32))) else (if v2 = (-1 : Int32) then (rec9 v1 v3 (v3 + (1 : Int32))) else (Option.bind (P_kinOf M v1 v3) (fun r9 => Option.bind (P_kinOf M v1 v2) (fun r11 => if r11 ≤ r9 then (rec9 v1 v2 (v3 + (1 : Int32))) else (rec9 v1 v3 (v3 + (1 : Int32))))))))))
def H_bestBull_L9 (M : Me) : Nat → Int32 → Int32 → Int32 → Option (Except String Int32)
  | 0, _, _, _ => none
  | F + 1, v1, v2, v3 => H_bestBull_b9 M (H_bestBull_L9 M F) v1 v2 v3
def H_bestBull (M : Me) (v1 : Int32) : Option (Except String Int32) :=
  ab_thrP (H_requireAnimal M v1) (fun r2 => H_bestBull_L9 M 64 v1 (-1 : Int32) (0 : Int32)) (fun E3 => some (.error E3))
def rm_H_bestBull : Room := { frames := 7, locals := 103, cells := 1, slots := 6 }
theorem q_H_bestBull_b9 {l : Launch} {D : va_G} {B : Nat} {ad : Nat → Nat} {r : Except String Int32} (M : Me) (rec9 : Int32 → Int32 → Int32 → Option (Except String Int32)) (hrec9 : ∀ (v1 : Int32) (v2 : Int32) (v3 : Int32) , rec9 v1 v2 v3 = some r → ab_V (ab_km l D B ad y_H_bestBull rm_H_bestBull (Except.map (fun v => some (.int v)) r) (lay M)) ad 9 [(0, .ref 0), (1, .int v1), (2, .int v2), (3, .int v3)] [] (lay M) 1 6) (v1 : Int32) (v2 : Int32) (v3 : Int32) (hyp : H_bestBull_b9 M rec9 v1 v2 v3 = some r) : ab_V (ab_km l D B ad y_H_bestBull rm_H_bestBull (Except.map (fun v => some (.int v)) r) (lay M)) ad 9 [(0, .ref 0), (1, .int v1), (2, .int v2), (3, .int v3)] [] (lay M) 1 6 := by
  unfold H_bestBull_b9 at hyp
  refine ab_iload_n 10 d_H_bestBull_9 rfl ?_
  refine ab_aload_n 11 d_H_bestBull_10 rfl ?_
  refine ab_get 14 d_H_bestBull_11 fd_1 rfl rfl ?_
  obtain ⟨r2, hc1, hyp⟩ := ab_bind hyp
  refine ab_callV (h' := lay M) 17 1 6 [.int v3] [.int r2, .int v3] d_H_bestBull_14 ok_P_size lk_0 (c_P_size hc1) rfl rfl ?_
  refine ab_ic_ge 64 20 d_H_bestBull_17 (fun z3 => ?_) (fun z3 => ?_)
  · replace hyp := ab_pos z3 hyp
    refine ab_iload_n 65 d_H_bestBull_64 rfl ?_
    cases hyp
    exact ab_ireturn d_H_bestBull_65 rfl rfl rfl (Nat.le_of_ble_eq_true rfl) (Nat.le_of_ble_eq_true rfl)
  · replace hyp := ab_neg z3 hyp
    refine ab_aload_n 21 d_H_bestBull_20 rfl ?_
    refine ab_iload_n 22 d_H_bestBull_21 rfl ?_
    refine ab_iconst 23 d_H_bestBull_22 (0 : Int32) (by decide) ?_
    obtain ⟨r5, hc4, hyp⟩ := ab_bind hyp
    refine ab_callV (h' := lay M) 26 1 6 [] [.int r5] d_H_bestBull_23 ok_H_isLiving lk_32 (c_H_isLiving hc4) rfl rfl ?_
    refine ab_if_eq 58 29 d_H_bestBull_26 (fun z6 => ?_) (fun z6 => ?_)
    · replace hyp := ab_pos z6 hyp
      refine ab_iinc 61 [(3, _), (0, _), (1, _), (2, _)] d_H_bestBull_58 (1 : Int32) (by decide) rfl rfl ?_
      refine ab_goto 9 d_H_bestBull_61 ?_
      refine ab_pick [1, 2, 3, 0] [(0, _), (1, _), (2, _), (3, _)] rfl ?_
      exact hrec9 v1 v2 (v3 + (1 : Int32)) hyp
    · replace hyp := ab_neg z6 hyp
      refine ab_iload_n 30 d_H_bestBull_29 rfl ?_
      refine ab_iconst 31 d_H_bestBull_30 (-1 : Int32) (by decide) ?_
      refine ab_ic_eq 56 34 d_H_bestBull_31 (fun z7 => ?_) (fun z7 => ?_)
      · replace hyp := ab_pos z7 hyp
        refine ab_iload_n 57 d_H_bestBull_56 rfl ?_
        refine ab_istore_n 58 [(2, _), (0, _), (1, _), (3, _)] d_H_bestBull_57 rfl ?_
        refine ab_iinc 61 [(3, _), (2, _), (0, _), (1, _)] d_H_bestBull_58 (1 : Int32) (by decide) rfl rfl ?_
        refine ab_goto 9 d_H_bestBull_61 ?_
        refine ab_pick [2, 3, 1, 0] [(0, _), (1, _), (2, _), (3, _)] rfl ?_
        exact hrec9 v1 v3 (v3 + (1 : Int32)) hyp
      · replace hyp := ab_neg z7 hyp
        refine ab_aload_n 35 d_H_bestBull_34 rfl ?_
        refine ab_get 38 d_H_bestBull_35 fd_1 rfl rfl ?_
        refine ab_iload_n 39 d_H_bestBull_38 rfl ?_
        refine ab_iload_n 40 d_H_bestBull_39 rfl ?_
        obtain ⟨r9, hc8, hyp⟩ := ab_bind hyp
        refine ab_callV (h' := lay M) 43 1 6 [] [.long r9] d_H_bestBull_40 ok_P_kinOf lk_18 (c_P_kinOf hc8) rfl rfl ?_
        refine ab_aload_n 44 d_H_bestBull_43 rfl ?_
        refine ab_get 47 d_H_bestBull_44 fd_1 rfl rfl ?_
        refine ab_iload_n 48 d_H_bestBull_47 rfl ?_
        refine ab_iload_n 49 d_H_bestBull_48 rfl ?_
        obtain ⟨r11, hc10, hyp⟩ := ab_bind hyp
        refine ab_callV (h' := lay M) 52 1 6 [.long r9] [.long r11, .long r9] d_H_bestBull_49 ok_P_kinOf lk_18 (c_P_kinOf hc10) rfl rfl ?_
        refine ab_lc_ge 58 53 56 d_H_bestBull_52 d_H_bestBull_53 (fun z12 => ?_) (fun z12 => ?_)
        · replace hyp := ab_pos z12 hyp
          refine ab_iinc 61 [(3, _), (0, _), (1, _), (2, _)] d_H_bestBull_58 (1 : Int32) (by decide) rfl rfl ?_
          refine ab_goto 9 d_H_bestBull_61 ?_
          refine ab_pick [1, 2, 3, 0] [(0, _), (1, _), (2, _), (3, _)] rfl ?_
          exact hrec9 v1 v2 (v3 + (1 : Int32)) hyp
        · replace hyp := ab_neg z12 hyp
          refine ab_iload_n 57 d_H_bestBull_56 rfl ?_
          refine ab_istore_n 58 [(2, _), (0, _), (1, _), (3, _)] d_H_bestBull_57 rfl ?_
          refine ab_iinc 61 [(3, _), (2, _), (0, _), (1, _)] d_H_bestBull_58 (1 : Int32) (by decide) rfl rfl ?_
          refine ab_goto 9 d_H_bestBull_61 ?_
          refine ab_pick [2, 3, 1, 0] [(0, _), (1, _), (2, _), (3, _)] rfl ?_
          exact hrec9 v1 v3 (v3 + (1 : Int32)) hyp
theorem q_H_bestBull_L9 {l : Launch} {D : va_G} {B : Nat} {ad : Nat → Nat} {r : Except String Int32} (M : Me) : ∀ (F : Nat) (v1 : Int32) (v2 : Int32) (v3 : Int32) , H_bestBull_L9 M F v1 v2 v3 = some r → ab_V (ab_km l D B ad y_H_bestBull rm_H_bestBull (Except.map (fun v => some (.int v)) r) (lay M)) ad 9 [(0, .ref 0), (1, .int v1), (2, .int v2), (3, .int v3)] [] (lay M) 1 6 := by
  intro F
  induction F with
  | zero =>
    intro v1 v2 v3 hyp
    have h2 : (none : Option (Except String Int32)) = some r := hyp
    cases h2
  | succ F ih =>
    intro v1 v2 v3 hyp
    exact q_H_bestBull_b9 M (H_bestBull_L9 M F) ih v1 v2 v3 hyp
theorem c_H_bestBull {M : Me} {v1 : Int32} {r : Except String Int32} (hyp : H_bestBull M v1 = some r) : ab_Met y_H_bestBull rm_H_bestBull [.ref 0, .int v1] (lay M) (Except.map (fun v => some (.int v)) r) (lay M) := by
  refine ab_start rfl rfl (Nat.le_of_ble_eq_true rfl) (fun l D B ad => ?_)
  show ab_V _ ad 0 [(0, .ref 0), (1, .int v1)] [] _ 0 0
  unfold H_bestBull at hyp
  refine ab_aload_n 1 d_H_bestBull_0 rfl ?_
  refine ab_iload_n 2 d_H_bestBull_1 rfl ?_
  rcases ab_thrP_cases hyp with ⟨r2, hc1, hyp⟩ | ⟨E3, hc1, hyp⟩
  · refine ab_callV (h' := lay M) 5 1 6 [] [] d_H_bestBull_2 ok_H_requireAnimal lk_2 (c_H_requireAnimal hc1) rfl rfl ?_
    refine ab_iconst 6 d_H_bestBull_5 (-1 : Int32) (by decide) ?_
    refine ab_istore_n 7 [(2, _), (0, _), (1, _)] d_H_bestBull_6 rfl ?_
    refine ab_iconst 8 d_H_bestBull_7 (0 : Int32) (by decide) ?_
    refine ab_istore_n 9 [(3, _), (2, _), (0, _), (1, _)] d_H_bestBull_8 rfl ?_
    refine ab_pick [2, 3, 1, 0] [(0, _), (1, _), (2, _), (3, _)] rfl ?_
    exact q_H_bestBull_L9 M 64 v1 (-1 : Int32) (0 : Int32) hyp
  · cases hyp
    refine ab_callVX (h' := lay M) 1 6 [] d_H_bestBull_2 ok_H_requireAnimal lk_2 (c_H_requireAnimal hc1) rfl rfl ?_
    exact ab_out rfl rfl rfl (Nat.le_of_ble_eq_true rfl) (Nat.le_of_ble_eq_true rfl)
/-! J_bitCount -/
def J_bitCount (M : Me) (v0 : Int32) : Option Int32 :=
  some ((((((((v0 - (((v0.toUInt32 >>> ((1 : Int32).toUInt32 &&& Int32.toUInt32 31)).toInt32) &&& (1431655765 : Int32))) &&& (858993459 : Int32)) + ((((v0 - (((v0.toUInt32 >>> ((1 : Int32).toUInt32 &&& Int32.toUInt32 31)).toInt32) &&& (1431655765 : Int32))).toUInt32 >>> ((2 : Int32).toUInt32 &&& Int32.toUInt32 31)).toInt32) &&& (858993459 : Int32))) + (((((v0 - (((v0.toUInt32 >>> ((1 : Int32).toUInt32 &&& Int32.toUInt32 31)).toInt32) &&& (1431655765 : Int32))) &&& (858993459 : Int32)) + ((((v0 - (((v0.toUInt32 >>> ((1 : Int32).toUInt32 &&& Int32.toUInt32 31)).toInt32) &&& (1431655765 : Int32))).toUInt32 >>> ((2 : Int32).toUInt32 &&& Int32.toUInt32 31)).toInt32) &&& (858993459 : Int32))).toUInt32 >>> ((4 : Int32).toUInt32 &&& Int32.toUInt32 31)).toInt32)) &&& (252645135 : Int32)) + (((((((v0 - (((v0.toUInt32 >>> ((1 : Int32).toUInt32 &&& Int32.toUInt32 31)).toInt32) &&& (1431655765 : Int32))) &&& (858993459 : Int32)) + ((((v0 - (((v0.toUInt32 >>> ((1 : Int32).toUInt32 &&& Int32.toUInt32 31)).toInt32) &&& (1431655765 : Int32))).toUInt32 >>> ((2 : Int32).toUInt32 &&& Int32.toUInt32 31)).toInt32) &&& (858993459 : Int32))) + (((((v0 - (((v0.toUInt32 >>> ((1 : Int32).toUInt32 &&& Int32.toUInt32 31)).toInt32) &&& (1431655765 : Int32))) &&& (858993459 : Int32)) + ((((v0 - (((v0.toUInt32 >>> ((1 : Int32).toUInt32 &&& Int32.toUInt32 31)).toInt32) &&& (1431655765 : Int32))).toUInt32 >>> ((2 : Int32).toUInt32 &&& Int32.toUInt32 31)).toInt32) &&& (858993459 : Int32))).toUInt32 >>> ((4 : Int32).toUInt32 &&& Int32.toUInt32 31)).toInt32)) &&& (252645135 : Int32)).toUInt32 >>> ((8 : Int32).toUInt32 &&& Int32.toUInt32 31)).toInt32)) + ((((((((v0 - (((v0.toUInt32 >>> ((1 : Int32).toUInt32 &&& Int32.toUInt32 31)).toInt32) &&& (1431655765 : Int32))) &&& (858993459 : Int32)) + ((((v0 - (((v0.toUInt32 >>> ((1 : Int32).toUInt32 &&& Int32.toUInt32 31)).toInt32) &&& (1431655765 : Int32))).toUInt32 >>> ((2 : Int32).toUInt32 &&& Int32.toUInt32 31)).toInt32) &&& (858993459 : Int32))) + (((((v0 - (((v0.toUInt32 >>> ((1 : Int32).toUInt32 &&& Int32.toUInt32 31)).toInt32) &&& (1431655765 : Int32))) &&& (858993459 : Int32)) + ((((v0 - (((v0.toUInt32 >>> ((1 : Int32).toUInt32 &&& Int32.toUInt32 31)).toInt32) &&& (1431655765 : Int32))).toUInt32 >>> ((2 : Int32).toUInt32 &&& Int32.toUInt32 31)).toInt32) &&& (858993459 : Int32))).toUInt32 >>> ((4 : Int32).toUInt32 &&& Int32.toUInt32 31)).toInt32)) &&& (252645135 : Int32)) + (((((((v0 - (((v0.toUInt32 >>> ((1 : Int32).toUInt32 &&& Int32.toUInt32 31)).toInt32) &&& (1431655765 : Int32))) &&& (858993459 : Int32)) + ((((v0 - (((v0.toUInt32 >>> ((1 : Int32).toUInt32 &&& Int32.toUInt32 31)).toInt32) &&& (1431655765 : Int32))).toUInt32 >>> ((2 : Int32).toUInt32 &&& Int32.toUInt32 31)).toInt32) &&& (858993459 : Int32))) + (((((v0 - (((v0.toUInt32 >>> ((1 : Int32).toUInt32 &&& Int32.toUInt32 31)).toInt32) &&& (1431655765 : Int32))) &&& (858993459 : Int32)) + ((((v0 - (((v0.toUInt32 >>> ((1 : Int32).toUInt32 &&& Int32.toUInt32 31)).toInt32) &&& (1431655765 : Int32))).toUInt32 >>> ((2 : Int32).toUInt32 &&& Int32.toUInt32 31)).toInt32) &&& (858993459 : Int32))).toUInt32 >>> ((4 : Int32).toUInt32 &&& Int32.toUInt32 31)).toInt32)) &&& (252645135 : Int32)).toUInt32 >>> ((8 : Int32).toUInt32 &&& Int32.toUInt32 31)).toInt32)).toUInt32 >>> ((16 : Int32).toUInt32 &&& Int32.toUInt32 31)).toInt32)) &&& (63 : Int32))
def rm_J_bitCount : Room := { frames := 0, locals := 0, cells := 0, slots := 0 }
theorem c_J_bitCount {M : Me} {v0 : Int32} {r : Int32} (hyp : J_bitCount M v0 = some r) : ab_Met y_J_bitCount rm_J_bitCount [.int v0] (lay M) (.ok (some (.int r))) (lay M) := by
  refine ab_start rfl rfl (Nat.le_of_ble_eq_true rfl) (fun l D B ad => ?_)
  show ab_V _ ad 0 [(0, .int v0)] [] _ 0 0
  unfold J_bitCount at hyp
  refine ab_iload_n 1 d_J_bitCount_0 rfl ?_
  refine ab_iload_n 2 d_J_bitCount_1 rfl ?_
  refine ab_iconst 3 d_J_bitCount_2 (1 : Int32) (by decide) ?_
  refine ab_iushr 4 d_J_bitCount_3 ?_
  refine ab_ldc_w (v := (1431655765 : Int32)) 7 d_J_bitCount_4 w_2 ?_
  refine ab_iand 8 d_J_bitCount_7 ?_
  refine ab_isub 9 d_J_bitCount_8 ?_
  refine ab_istore_n 10 [(0, _)] d_J_bitCount_9 rfl ?_
  refine ab_iload_n 11 d_J_bitCount_10 rfl ?_
  refine ab_ldc_w (v := (858993459 : Int32)) 14 d_J_bitCount_11 w_3 ?_
  refine ab_iand 15 d_J_bitCount_14 ?_
  refine ab_iload_n 16 d_J_bitCount_15 rfl ?_
  refine ab_iconst 17 d_J_bitCount_16 (2 : Int32) (by decide) ?_
  refine ab_iushr 18 d_J_bitCount_17 ?_
  refine ab_ldc_w (v := (858993459 : Int32)) 21 d_J_bitCount_18 w_3 ?_
  refine ab_iand 22 d_J_bitCount_21 ?_
  refine ab_iadd 23 d_J_bitCount_22 ?_
  refine ab_istore_n 24 [(0, _)] d_J_bitCount_23 rfl ?_
  refine ab_iload_n 25 d_J_bitCount_24 rfl ?_
  refine ab_iload_n 26 d_J_bitCount_25 rfl ?_
  refine ab_iconst 27 d_J_bitCount_26 (4 : Int32) (by decide) ?_
  refine ab_iushr 28 d_J_bitCount_27 ?_
  refine ab_iadd 29 d_J_bitCount_28 ?_
  refine ab_ldc_w (v := (252645135 : Int32)) 32 d_J_bitCount_29 w_4 ?_
  refine ab_iand 33 d_J_bitCount_32 ?_
  refine ab_istore_n 34 [(0, _)] d_J_bitCount_33 rfl ?_
  refine ab_iload_n 35 d_J_bitCount_34 rfl ?_
  refine ab_iload_n 36 d_J_bitCount_35 rfl ?_
  refine ab_bipush 38 d_J_bitCount_36 (8 : Int32) (by decide) ?_
  refine ab_iushr 39 d_J_bitCount_38 ?_
  refine ab_iadd 40 d_J_bitCount_39 ?_
  refine ab_istore_n 41 [(0, _)] d_J_bitCount_40 rfl ?_
  refine ab_iload_n 42 d_J_bitCount_41 rfl ?_
  refine ab_iload_n 43 d_J_bitCount_42 rfl ?_
  refine ab_bipush 45 d_J_bitCount_43 (16 : Int32) (by decide) ?_
  refine ab_iushr 46 d_J_bitCount_45 ?_
  refine ab_iadd 47 d_J_bitCount_46 ?_
  refine ab_istore_n 48 [(0, _)] d_J_bitCount_47 rfl ?_
  refine ab_iload_n 49 d_J_bitCount_48 rfl ?_
  refine ab_bipush 51 d_J_bitCount_49 (63 : Int32) (by decide) ?_
  refine ab_iand 52 d_J_bitCount_51 ?_
  cases hyp
  exact ab_ireturn d_J_bitCount_52 rfl rfl rfl (Nat.le_of_ble_eq_true rfl) (Nat.le_of_ble_eq_true rfl)
/-! H_requireLivingFemales -/
def H_requireLivingFemales_b2 (M : Me) (rec2 : Int32 → Int32 → Option (Except String Unit)) (v1 : Int32) (v2 : Int32) : Option (Except String Unit) :=
  Option.bind (P_size M) (fun r2 => if r2 ≤ v2 then (some (.ok ())) else (if ((v1 >>> (v2 &&& 31)) &&& (1 : Int32)) = (0 : Int32) then (rec2 v1 (v2 + (1 : Int32))) else (Option.bind (H_isLiving M v2 (1 : Int32)) (fun r6 => if r6 = (0 : Int32) then (some (.error "java/lang/UnsupportedOperationException")) else (rec2 v1 (v2 + (1 : Int32)))))))
def H_requireLivingFemales_L2 (M : Me) : Nat → Int32 → Int32 → Option (Except String Unit)
  | 0, _, _ => none
  | F + 1, v1, v2 => H_requireLivingFemales_b2 M (H_requireLivingFemales_L2 M F) v1 v2
def H_requireLivingFemales (M : Me) (v1 : Int32) : Option (Except String Unit) :=
  H_requireLivingFemales_L2 M 64 v1 (0 : Int32)
def rm_H_requireLivingFemales : Room := { frames := 6, locals := 82, cells := 1, slots := 6 }
theorem q_H_requireLivingFemales_b2 {l : Launch} {D : va_G} {B : Nat} {ad : Nat → Nat} {r : Except String Unit} (M : Me) (rec2 : Int32 → Int32 → Option (Except String Unit)) (hrec2 : ∀ (v1 : Int32) (v2 : Int32) , rec2 v1 v2 = some r → ab_V (ab_km l D B ad y_H_requireLivingFemales rm_H_requireLivingFemales (Except.map (fun _ => none) r) (lay M)) ad 2 [(0, .ref 0), (1, .int v1), (2, .int v2)] [] (lay M) 0 0) (v1 : Int32) (v2 : Int32) (hyp : H_requireLivingFemales_b2 M rec2 v1 v2 = some r) : ab_V (ab_km l D B ad y_H_requireLivingFemales rm_H_requireLivingFemales (Except.map (fun _ => none) r) (lay M)) ad 2 [(0, .ref 0), (1, .int v1), (2, .int v2)] [] (lay M) 0 0 := by
  unfold H_requireLivingFemales_b2 at hyp
  refine ab_iload_n 3 d_H_requireLivingFemales_2 rfl ?_
  refine ab_aload_n 4 d_H_requireLivingFemales_3 rfl ?_
  refine ab_get 7 d_H_requireLivingFemales_4 fd_1 rfl rfl ?_
  obtain ⟨r2, hc1, hyp⟩ := ab_bind hyp
  refine ab_callV (h' := lay M) 10 0 0 [.int v2] [.int r2, .int v2] d_H_requireLivingFemales_7 ok_P_size lk_0 (c_P_size hc1) rfl rfl ?_
  refine ab_ic_ge 46 13 d_H_requireLivingFemales_10 (fun z3 => ?_) (fun z3 => ?_)
  · replace hyp := ab_pos z3 hyp
    cases hyp
    exact ab_return d_H_requireLivingFemales_46 rfl rfl rfl (Nat.le_of_ble_eq_true rfl) (Nat.le_of_ble_eq_true rfl)
  · replace hyp := ab_neg z3 hyp
    refine ab_iload_n 14 d_H_requireLivingFemales_13 rfl ?_
    refine ab_iload_n 15 d_H_requireLivingFemales_14 rfl ?_
    refine ab_ishr 16 d_H_requireLivingFemales_15 ?_
    refine ab_iconst 17 d_H_requireLivingFemales_16 (1 : Int32) (by decide) ?_
    refine ab_iand 18 d_H_requireLivingFemales_17 ?_
    refine ab_if_eq 40 21 d_H_requireLivingFemales_18 (fun z4 => ?_) (fun z4 => ?_)
    · replace hyp := ab_pos z4 hyp
      refine ab_iinc 43 [(2, _), (0, _), (1, _)] d_H_requireLivingFemales_40 (1 : Int32) (by decide) rfl rfl ?_
      refine ab_goto 2 d_H_requireLivingFemales_43 ?_
      refine ab_pick [1, 2, 0] [(0, _), (1, _), (2, _)] rfl ?_
      exact hrec2 v1 (v2 + (1 : Int32)) hyp
    · replace hyp := ab_neg z4 hyp
      refine ab_aload_n 22 d_H_requireLivingFemales_21 rfl ?_
      refine ab_iload_n 23 d_H_requireLivingFemales_22 rfl ?_
      refine ab_iconst 24 d_H_requireLivingFemales_23 (1 : Int32) (by decide) ?_
      obtain ⟨r6, hc5, hyp⟩ := ab_bind hyp
      refine ab_callV (h' := lay M) 27 0 0 [] [.int r6] d_H_requireLivingFemales_24 ok_H_isLiving lk_32 (c_H_isLiving hc5) rfl rfl ?_
      refine ab_if_ne 40 30 d_H_requireLivingFemales_27 (fun z7 => ?_) (fun z7 => ?_)
      · replace hyp := ab_neg z7 hyp
        refine ab_iinc 43 [(2, _), (0, _), (1, _)] d_H_requireLivingFemales_40 (1 : Int32) (by decide) rfl rfl ?_
        refine ab_goto 2 d_H_requireLivingFemales_43 ?_
        refine ab_pick [1, 2, 0] [(0, _), (1, _), (2, _)] rfl ?_
        exact hrec2 v1 (v2 + (1 : Int32)) hyp
      · replace hyp := ab_pos z7 hyp
        cases hyp
        exact ab_throw te_8 rfl d_H_requireLivingFemales_30 d_H_requireLivingFemales_33 d_H_requireLivingFemales_34 d_H_requireLivingFemales_36 d_H_requireLivingFemales_39 (Nat.le_of_ble_eq_true rfl) (Nat.le_of_ble_eq_true rfl) rfl rfl (Nat.le_of_ble_eq_true rfl) (Nat.le_of_ble_eq_true rfl)
theorem q_H_requireLivingFemales_L2 {l : Launch} {D : va_G} {B : Nat} {ad : Nat → Nat} {r : Except String Unit} (M : Me) : ∀ (F : Nat) (v1 : Int32) (v2 : Int32) , H_requireLivingFemales_L2 M F v1 v2 = some r → ab_V (ab_km l D B ad y_H_requireLivingFemales rm_H_requireLivingFemales (Except.map (fun _ => none) r) (lay M)) ad 2 [(0, .ref 0), (1, .int v1), (2, .int v2)] [] (lay M) 0 0 := by
  intro F
  induction F with
  | zero =>
    intro v1 v2 hyp
    have h2 : (none : Option (Except String Unit)) = some r := hyp
    cases h2
  | succ F ih =>
    intro v1 v2 hyp
    exact q_H_requireLivingFemales_b2 M (H_requireLivingFemales_L2 M F) ih v1 v2 hyp
theorem c_H_requireLivingFemales {M : Me} {v1 : Int32} {r : Except String Unit} (hyp : H_requireLivingFemales M v1 = some r) : ab_Met y_H_requireLivingFemales rm_H_requireLivingFemales [.ref 0, .int v1] (lay M) (Except.map (fun _ => none) r) (lay M) := by
  refine ab_start rfl rfl (Nat.le_of_ble_eq_true rfl) (fun l D B ad => ?_)
  show ab_V _ ad 0 [(0, .ref 0), (1, .int v1)] [] _ 0 0
  unfold H_requireLivingFemales at hyp
  refine ab_iconst 1 d_H_requireLivingFemales_0 (0 : Int32) (by decide) ?_
  refine ab_istore_n 2 [(2, _), (0, _), (1, _)] d_H_requireLivingFemales_1 rfl ?_
  refine ab_pick [1, 2, 0] [(0, _), (1, _), (2, _)] rfl ?_
  exact q_H_requireLivingFemales_L2 M 64 v1 (0 : Int32) hyp
/-! B_begin -/
def B_begin_c59 (v2 : Int32) (v3 : Int64) (M : Me) : Option Me :=
  gd (inb (0 : Int32) 32) (gd (inb (0 : Int32) 32) (some (sI (sL (fL (sG (sF M 3 v2) 0 v3) 2 32 (-1 : Int64)) 2 (0 : Int32) (0 : Int64)) 10 (0 : Int32) (0 : Int32))))
def B_begin_b8 (rec8 : Int32 → Int32 → Int64 → Int32 → Me → Option Me) (v1 : Int32) (v2 : Int32) (v3 : Int64) (v5 : Int32) (M : Me) : Option Me :=
  if (24 : Int32) ≤ v5 then (B_begin_c59 v2 v3 M) else (if (5 : Int32) ≤ (gF M 2) then (B_begin_c59 v2 v3 M) else (if ((v1 >>> (v5 &&& 31)) &&& (1 : Int32)) = (0 : Int32) then (rec8 v1 v2 v3 (v5 + (1 : Int32)) M) else (gd (inb (gF M 2) 5) (rec8 v1 v2 v3 (v5 + (1 : Int32)) (sF (sI M 9 (gF M 2) v5) 2 ((gF (sI M 9 (gF M 2) v5) 2) + (1 : Int32)))))))
def B_begin_L8 : Nat → Int32 → Int32 → Int64 → Int32 → Me → Option Me
  | 0, _, _, _, _, _ => none
  | F + 1, v1, v2, v3, v5, M => B_begin_b8 (B_begin_L8 F) v1 v2 v3 v5 M
def B_begin (M : Me) (v1 : Int32) (v2 : Int32) (v3 : Int64) : Option Me :=
  B_begin_L8 64 v1 v2 v3 (0 : Int32) (sF M 2 (0 : Int32))
def rm_B_begin : Room := { frames := 1, locals := 26, cells := 0, slots := 0 }
theorem q_B_begin_c59 {l : Launch} {D : va_G} {B : Nat} {ad : Nat → Nat} {r : Me} (v2 : Int32) (v3 : Int64) (M : Me) (hyp : B_begin_c59 v2 v3 M = some r) : ab_V (ab_km l D B ad y_B_begin rm_B_begin (.ok none) (lay r)) ad 59 [(0, .ref 2), (2, .int v2), (3, .long v3)] [] (lay M) 0 0 := by
  unfold B_begin_c59 at hyp
  refine ab_aload_n 60 d_B_begin_59 rfl ?_
  refine ab_iload_n 61 d_B_begin_60 rfl ?_
  refine ab_puti 64 d_B_begin_61 fw_2 rfl (lay_F3 _ _) ?_
  refine ab_aload_n 65 d_B_begin_64 rfl ?_
  refine ab_lload_n 66 d_B_begin_65 rfl ?_
  refine ab_putl 69 d_B_begin_66 fw_3 rfl (lay_G0 _ _) ?_
  refine ab_aload_n 70 d_B_begin_69 rfl ?_
  refine ab_get 73 d_B_begin_70 fd_15 rfl rfl ?_
  refine ab_ldc2 (v := (-1 : Int64)) 76 d_B_begin_73 w_5 ?_
  refine ab_callS (h' := lay (fL (sG (sF M 3 v2) 0 v3) 2 32 (-1 : Int64))) 79 0 0 [] [] d_B_begin_76 ok_J_fillL lk_33 (c_J_fillL2 (sG (sF M 3 v2) 0 v3) (-1 : Int64)) rfl ?_
  refine ab_aload_n 80 d_B_begin_79 rfl ?_
  refine ab_get 83 d_B_begin_80 fd_15 rfl rfl ?_
  refine ab_iconst 84 d_B_begin_83 (0 : Int32) (by decide) ?_
  refine ab_lconst 85 d_B_begin_84 (0 : Int64) (by decide) ?_
  obtain ⟨g1, hyp⟩ := ab_gd hyp
  refine ab_lst 2 32 86 d_B_begin_85 rfl g1 lay_L2 ?_
  refine ab_aload_n 87 d_B_begin_86 rfl ?_
  refine ab_get 90 d_B_begin_87 fd_16 rfl rfl ?_
  refine ab_iconst 91 d_B_begin_90 (0 : Int32) (by decide) ?_
  refine ab_iconst 92 d_B_begin_91 (0 : Int32) (by decide) ?_
  obtain ⟨g2, hyp⟩ := ab_gd hyp
  refine ab_ist 10 32 93 d_B_begin_92 rfl g2 lay_I10 ?_
  cases hyp
  exact ab_return d_B_begin_93 rfl rfl rfl (Nat.le_of_ble_eq_true rfl) (Nat.le_of_ble_eq_true rfl)
theorem q_B_begin_b8 {l : Launch} {D : va_G} {B : Nat} {ad : Nat → Nat} {r : Me} (rec8 : Int32 → Int32 → Int64 → Int32 → Me → Option Me) (hrec8 : ∀ (v1 : Int32) (v2 : Int32) (v3 : Int64) (v5 : Int32) (M : Me) , rec8 v1 v2 v3 v5 M = some r → ab_V (ab_km l D B ad y_B_begin rm_B_begin (.ok none) (lay r)) ad 8 [(0, .ref 2), (1, .int v1), (2, .int v2), (3, .long v3), (5, .int v5)] [] (lay M) 0 0) (v1 : Int32) (v2 : Int32) (v3 : Int64) (v5 : Int32) (M : Me) (hyp : B_begin_b8 rec8 v1 v2 v3 v5 M = some r) : ab_V (ab_km l D B ad y_B_begin rm_B_begin (.ok none) (lay r)) ad 8 [(0, .ref 2), (1, .int v1), (2, .int v2), (3, .long v3), (5, .int v5)] [] (lay M) 0 0 := by
  unfold B_begin_b8 at hyp
  refine ab_iload 10 d_B_begin_8 rfl ?_
  refine ab_bipush 12 d_B_begin_10 (24 : Int32) (by decide) ?_
  refine ab_ic_ge 59 15 d_B_begin_12 (fun z1 => ?_) (fun z1 => ?_)
  · replace hyp := ab_pos z1 hyp
    refine ab_pick [0, 2, 3] [(0, _), (2, _), (3, _)] rfl ?_
    exact q_B_begin_c59 v2 v3 M hyp
  · replace hyp := ab_neg z1 hyp
    refine ab_aload_n 16 d_B_begin_15 rfl ?_
    refine ab_get 19 d_B_begin_16 fd_13 rfl rfl ?_
    refine ab_iconst 20 d_B_begin_19 (5 : Int32) (by decide) ?_
    refine ab_ic_ge 59 23 d_B_begin_20 (fun z2 => ?_) (fun z2 => ?_)
    · replace hyp := ab_pos z2 hyp
      refine ab_pick [0, 2, 3] [(0, _), (2, _), (3, _)] rfl ?_
      exact q_B_begin_c59 v2 v3 M hyp
    · replace hyp := ab_neg z2 hyp
      refine ab_iload_n 24 d_B_begin_23 rfl ?_
      refine ab_iload 26 d_B_begin_24 rfl ?_
      refine ab_ishr 27 d_B_begin_26 ?_
      refine ab_iconst 28 d_B_begin_27 (1 : Int32) (by decide) ?_
      refine ab_iand 29 d_B_begin_28 ?_
      refine ab_if_eq 53 32 d_B_begin_29 (fun z3 => ?_) (fun z3 => ?_)
      · replace hyp := ab_pos z3 hyp
        refine ab_iinc 56 [(5, _), (0, _), (1, _), (2, _), (3, _)] d_B_begin_53 (1 : Int32) (by decide) rfl rfl ?_
        refine ab_goto 8 d_B_begin_56 ?_
        refine ab_pick [1, 2, 3, 4, 0] [(0, _), (1, _), (2, _), (3, _), (5, _)] rfl ?_
        exact hrec8 v1 v2 v3 (v5 + (1 : Int32)) M hyp
      · replace hyp := ab_neg z3 hyp
        refine ab_aload_n 33 d_B_begin_32 rfl ?_
        refine ab_get 36 d_B_begin_33 fd_14 rfl rfl ?_
        refine ab_aload_n 37 d_B_begin_36 rfl ?_
        refine ab_get 40 d_B_begin_37 fd_13 rfl rfl ?_
        refine ab_iload 42 d_B_begin_40 rfl ?_
        obtain ⟨g4, hyp⟩ := ab_gd hyp
        refine ab_ist 9 5 43 d_B_begin_42 rfl g4 lay_I9 ?_
        refine ab_aload_n 44 d_B_begin_43 rfl ?_
        refine ab_dupr 45 d_B_begin_44 ?_
        refine ab_get 48 d_B_begin_45 fd_13 rfl rfl ?_
        refine ab_iconst 49 d_B_begin_48 (1 : Int32) (by decide) ?_
        refine ab_iadd 50 d_B_begin_49 ?_
        refine ab_puti 53 d_B_begin_50 fw_1 rfl (lay_F2 _ _) ?_
        refine ab_iinc 56 [(5, _), (0, _), (1, _), (2, _), (3, _)] d_B_begin_53 (1 : Int32) (by decide) rfl rfl ?_
        refine ab_goto 8 d_B_begin_56 ?_
        refine ab_pick [1, 2, 3, 4, 0] [(0, _), (1, _), (2, _), (3, _), (5, _)] rfl ?_
        exact hrec8 v1 v2 v3 (v5 + (1 : Int32)) (sF (sI M 9 (gF M 2) v5) 2 ((gF (sI M 9 (gF M 2) v5) 2) + (1 : Int32))) hyp
theorem q_B_begin_L8 {l : Launch} {D : va_G} {B : Nat} {ad : Nat → Nat} {r : Me} : ∀ (F : Nat) (v1 : Int32) (v2 : Int32) (v3 : Int64) (v5 : Int32) (M : Me) , B_begin_L8 F v1 v2 v3 v5 M = some r → ab_V (ab_km l D B ad y_B_begin rm_B_begin (.ok none) (lay r)) ad 8 [(0, .ref 2), (1, .int v1), (2, .int v2), (3, .long v3), (5, .int v5)] [] (lay M) 0 0 := by
  intro F
  induction F with
  | zero =>
    intro v1 v2 v3 v5 M hyp
    have h2 : (none : Option Me) = some r := hyp
    cases h2
  | succ F ih =>
    intro v1 v2 v3 v5 M hyp
    exact q_B_begin_b8 (B_begin_L8 F) ih v1 v2 v3 v5 M hyp
theorem c_B_begin {M : Me} {v1 : Int32} {v2 : Int32} {v3 : Int64} {r : Me} (hyp : B_begin M v1 v2 v3 = some r) : ab_Met y_B_begin rm_B_begin [.ref 2, .int v1, .int v2, .long v3] (lay M) (.ok none) (lay r) := by
  refine ab_start rfl rfl (Nat.le_of_ble_eq_true rfl) (fun l D B ad => ?_)
  show ab_V _ ad 0 [(0, .ref 2), (1, .int v1), (2, .int v2), (3, .long v3)] [] _ 0 0
  unfold B_begin at hyp
  refine ab_aload_n 1 d_B_begin_0 rfl ?_
  refine ab_iconst 2 d_B_begin_1 (0 : Int32) (by decide) ?_
  refine ab_puti 5 d_B_begin_2 fw_1 rfl (lay_F2 _ _) ?_
  refine ab_iconst 6 d_B_begin_5 (0 : Int32) (by decide) ?_
  refine ab_istore 8 [(5, _), (0, _), (1, _), (2, _), (3, _)] d_B_begin_6 rfl ?_
  refine ab_pick [1, 2, 3, 4, 0] [(0, _), (1, _), (2, _), (3, _), (5, _)] rfl ?_
  exact q_B_begin_L8 64 v1 v2 v3 (0 : Int32) (sF M 2 (0 : Int32)) hyp
