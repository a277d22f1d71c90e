/-! P_replaceParents -/
def P_replaceParents_b20 (rec20 : Int32 → Int32 → Me → Option (Int32 × Me)) (v4 : Int32) (v5 : Int32) (M : Me) : Option (Int32 × Me) :=
  if (gF M 0) ≤ v5 then (some (v4, M)) else (gd (inb v5 24) (Option.bind (P_renew M v5) (fun r4 => gd (inb v5 24) (if (gL r4 0 v5) = (gL M 0 v5) then (rec20 v4 (v5 + (1 : Int32)) r4) else (rec20 (v4 + (1 : Int32)) (v5 + (1 : Int32)) r4)))))
def P_replaceParents_L20 : Nat → Int32 → Int32 → Me → Option (Int32 × Me)
  | 0, _, _, _ => none
  | F + 1, v4, v5, M => P_replaceParents_b20 (P_replaceParents_L20 F) v4 v5 M
def P_replaceParents (M : Me) (v1 : Int32) (v2 : Int32) (v3 : Int32) : Option (Int32 × Me) :=
  gd (inb v1 24) (gd (inb v1 24) (P_replaceParents_L20 64 (0 : Int32) v1 (sI (sI M 0 v1 v2) 1 v1 v3)))
def rm_P_replaceParents : Room := { frames := 2, locals := 48, cells := 0, slots := 0 }
theorem q_P_replaceParents_b20 {l : Launch} {D : va_G} {B : Nat} {ad : Nat → Nat} {r : Int32 × Me} (rec20 : Int32 → Int32 → Me → Option (Int32 × Me)) (hrec20 : ∀ (v4 : Int32) (v5 : Int32) (M : Me) , rec20 v4 v5 M = some r → ab_V (ab_km l D B ad y_P_replaceParents rm_P_replaceParents (.ok (some (.int r.1))) (lay r.2)) ad 20 [(0, .ref 1), (4, .int v4), (5, .int v5)] [] (lay M) 0 0) (v4 : Int32) (v5 : Int32) (M : Me) (hyp : P_replaceParents_b20 rec20 v4 v5 M = some r) : ab_V (ab_km l D B ad y_P_replaceParents rm_P_replaceParents (.ok (some (.int r.1))) (lay r.2)) ad 20 [(0, .ref 1), (4, .int v4), (5, .int v5)] [] (lay M) 0 0 := by
  unfold P_replaceParents_b20 at hyp
  refine ab_iload 22 d_P_replaceParents_20 rfl ?_
  refine ab_aload_n 23 d_P_replaceParents_22 rfl ?_
  refine ab_get 26 d_P_replaceParents_23 fd_0 rfl rfl ?_
  refine ab_ic_ge 66 29 d_P_replaceParents_26 (fun z1 => ?_) (fun z1 => ?_)
  · replace hyp := ab_pos z1 hyp
    refine ab_iload 68 d_P_replaceParents_66 rfl ?_
    cases hyp
    exact ab_ireturn d_P_replaceParents_68 rfl rfl rfl (Nat.le_of_ble_eq_true rfl) (Nat.le_of_ble_eq_true rfl)
  · replace hyp := ab_neg z1 hyp
    refine ab_aload_n 30 d_P_replaceParents_29 rfl ?_
    refine ab_get 33 d_P_replaceParents_30 fd_9 rfl rfl ?_
    refine ab_iload 35 d_P_replaceParents_33 rfl ?_
    obtain ⟨g2, hyp⟩ := ab_gd hyp
    refine ab_lld 0 24 36 d_P_replaceParents_35 rfl g2 ?_
    refine ab_lstore 38 [(6, _), (0, _), (4, _), (5, _)] d_P_replaceParents_36 rfl ?_
    refine ab_aload_n 39 d_P_replaceParents_38 rfl ?_
    refine ab_iload 41 d_P_replaceParents_39 rfl ?_
    obtain ⟨r4, hc3, hyp⟩ := ab_bind hyp
    refine ab_callV (h' := lay r4) 44 0 0 [] [] d_P_replaceParents_41 ok_P_renew lk_9 (c_P_renew hc3) rfl rfl ?_
    refine ab_aload_n 45 d_P_replaceParents_44 rfl ?_
    refine ab_get 48 d_P_replaceParents_45 fd_9 rfl rfl ?_
    refine ab_iload 50 d_P_replaceParents_48 rfl ?_
    obtain ⟨g5, hyp⟩ := ab_gd hyp
    refine ab_lld 0 24 51 d_P_replaceParents_50 rfl g5 ?_
    refine ab_lload 53 d_P_replaceParents_51 rfl ?_
    refine ab_lc_eq 60 54 57 d_P_replaceParents_53 d_P_replaceParents_54 (fun z6 => ?_) (fun z6 => ?_)
    · replace hyp := ab_pos z6 hyp
      refine ab_iinc 63 [(5, _), (6, _), (0, _), (4, _)] d_P_replaceParents_60 (1 : Int32) (by decide) rfl rfl ?_
      refine ab_goto 20 d_P_replaceParents_63 ?_
      refine ab_pick [2, 3, 0] [(0, _), (4, _), (5, _)] rfl ?_
      exact hrec20 v4 (v5 + (1 : Int32)) r4 hyp
    · replace hyp := ab_neg z6 hyp
      refine ab_iinc 60 [(4, _), (6, _), (0, _), (5, _)] d_P_replaceParents_57 (1 : Int32) (by decide) rfl rfl ?_
      refine ab_iinc 63 [(5, _), (4, _), (6, _), (0, _)] d_P_replaceParents_60 (1 : Int32) (by decide) rfl rfl ?_
      refine ab_goto 20 d_P_replaceParents_63 ?_
      refine ab_pick [3, 1, 0] [(0, _), (4, _), (5, _)] rfl ?_
      exact hrec20 (v4 + (1 : Int32)) (v5 + (1 : Int32)) r4 hyp
theorem q_P_replaceParents_L20 {l : Launch} {D : va_G} {B : Nat} {ad : Nat → Nat} {r : Int32 × Me} : ∀ (F : Nat) (v4 : Int32) (v5 : Int32) (M : Me) , P_replaceParents_L20 F v4 v5 M = some r → ab_V (ab_km l D B ad y_P_replaceParents rm_P_replaceParents (.ok (some (.int r.1))) (lay r.2)) ad 20 [(0, .ref 1), (4, .int v4), (5, .int v5)] [] (lay M) 0 0 := by
  intro F
  induction F with
  | zero =>
    intro v4 v5 M hyp
    have h2 : (none : Option (Int32 × Me)) = some r := hyp
    cases h2
  | succ F ih =>
    intro v4 v5 M hyp
    exact q_P_replaceParents_b20 (P_replaceParents_L20 F) ih v4 v5 M hyp
theorem c_P_replaceParents {M : Me} {v1 : Int32} {v2 : Int32} {v3 : Int32} {r : Int32 × Me} (hyp : P_replaceParents M v1 v2 v3 = some r) : ab_Met y_P_replaceParents rm_P_replaceParents [.ref 1, .int v1, .int v2, .int v3] (lay M) (.ok (some (.int r.1))) (lay r.2) := by
  refine ab_start rfl rfl (Nat.le_of_ble_eq_true rfl) (fun l D B ad => ?_)
  show ab_V _ ad 0 [(0, .ref 1), (1, .int v1), (2, .int v2), (3, .int v3)] [] _ 0 0
  unfold P_replaceParents at hyp
  refine ab_aload_n 1 d_P_replaceParents_0 rfl ?_
  refine ab_get 4 d_P_replaceParents_1 fd_4 rfl rfl ?_
  refine ab_iload_n 5 d_P_replaceParents_4 rfl ?_
  refine ab_iload_n 6 d_P_replaceParents_5 rfl ?_
  obtain ⟨g1, hyp⟩ := ab_gd hyp
  refine ab_ist 0 24 7 d_P_replaceParents_6 rfl g1 lay_I0 ?_
  refine ab_aload_n 8 d_P_replaceParents_7 rfl ?_
  refine ab_get 11 d_P_replaceParents_8 fd_5 rfl rfl ?_
  refine ab_iload_n 12 d_P_replaceParents_11 rfl ?_
  refine ab_iload_n 13 d_P_replaceParents_12 rfl ?_
  obtain ⟨g2, hyp⟩ := ab_gd hyp
  refine ab_ist 1 24 14 d_P_replaceParents_13 rfl g2 lay_I1 ?_
  refine ab_iconst 15 d_P_replaceParents_14 (0 : Int32) (by decide) ?_
  refine ab_istore 17 [(4, _), (0, _), (1, _), (2, _), (3, _)] d_P_replaceParents_15 rfl ?_
  refine ab_iload_n 18 d_P_replaceParents_17 rfl ?_
  refine ab_istore 20 [(5, _), (4, _), (0, _), (1, _), (2, _), (3, _)] d_P_replaceParents_18 rfl ?_
  refine ab_pick [2, 1, 0] [(0, _), (4, _), (5, _)] rfl ?_
  exact q_P_replaceParents_L20 64 (0 : Int32) v1 (sI (sI M 0 v1 v2) 1 v1 v3) hyp
/-! H_correct -/
def H_correct (M : Me) (v1 : Int32) (v2 : Int32) (v3 : Int32) : Option (Except String Int32 × Me) :=
  ab_thrP (H_requireAnimal M v1) (fun r2 => ab_thrP (H_requireAnimalOrNone M v2) (fun r5 => ab_thrP (H_requireAnimalOrNone M v3) (fun r8 => gd (inb v1 24) (ab_thrP (H_requireFitParents M v2 v3 (gI M 6 v1)) (fun r12 => if v1 ≤ v2 then (some (.error "java/lang/UnsupportedOperationException", M)) else (if v3 < v1 then (Option.bind (P_replaceParents M v1 v2 v3) (fun r17 => some (.ok r17.1, r17.2))) else (some (.error "java/lang/UnsupportedOperationException", M)))) (fun E13 => some (.error E13, M)))) (fun E9 => some (.error E9, M))) (fun E6 => some (.error E6, M))) (fun E3 => some (.error E3, M))
def rm_H_correct : Room := { frames := 8, locals := 124, cells := 5, slots := 30 }
theorem c_H_correct {M : Me} {v1 : Int32} {v2 : Int32} {v3 : Int32} {r : Except String Int32 × Me} (hyp : H_correct M v1 v2 v3 = some r) : ab_Met y_H_correct rm_H_correct [.ref 0, .int v1, .int v2, .int v3] (lay M) (Except.map (fun v => some (.int v)) r.1) (lay r.2) := by
  refine ab_start rfl rfl (Nat.le_of_ble_eq_true rfl) (fun l D B ad => ?_)
  show ab_V _ ad 0 [(0, .ref 0), (1, .int v1), (2, .int v2), (3, .int v3)] [] _ 0 0
  unfold H_correct at hyp
  refine ab_aload_n 1 d_H_correct_0 rfl ?_
  refine ab_iload_n 2 d_H_correct_1 rfl ?_
  rcases ab_thrP_cases hyp with ⟨r2, hc1, hyp⟩ | ⟨E3, hc1, hyp⟩
  · refine ab_callV (h' := lay M) 5 1 6 [] [] d_H_correct_2 ok_H_requireAnimal lk_2 (c_H_requireAnimal hc1) rfl rfl ?_
    refine ab_aload_n 6 d_H_correct_5 rfl ?_
    refine ab_iload_n 7 d_H_correct_6 rfl ?_
    rcases ab_thrP_cases hyp with ⟨r5, hc4, hyp⟩ | ⟨E6, hc4, hyp⟩
    · refine ab_callV (h' := lay M) 10 2 12 [] [] d_H_correct_7 ok_H_requireAnimalOrNone lk_10 (c_H_requireAnimalOrNone hc4) rfl rfl ?_
      refine ab_aload_n 11 d_H_correct_10 rfl ?_
      refine ab_iload_n 12 d_H_correct_11 rfl ?_
      rcases ab_thrP_cases hyp with ⟨r8, hc7, hyp⟩ | ⟨E9, hc7, hyp⟩
      · refine ab_callV (h' := lay M) 15 3 18 [] [] d_H_correct_12 ok_H_requireAnimalOrNone lk_10 (c_H_requireAnimalOrNone hc7) rfl rfl ?_
        refine ab_aload_n 16 d_H_correct_15 rfl ?_
        refine ab_iload_n 17 d_H_correct_16 rfl ?_
        refine ab_iload_n 18 d_H_correct_17 rfl ?_
        refine ab_aload_n 19 d_H_correct_18 rfl ?_
        refine ab_get 22 d_H_correct_19 fd_3 rfl rfl ?_
        refine ab_iload_n 23 d_H_correct_22 rfl ?_
        obtain ⟨g10, hyp⟩ := ab_gd hyp
        refine ab_ild 6 24 24 d_H_correct_23 rfl g10 ?_
        rcases ab_thrP_cases hyp with ⟨r12, hc11, hyp⟩ | ⟨E13, hc11, hyp⟩
        · refine ab_callV (h' := lay M) 27 4 24 [] [] d_H_correct_24 ok_H_requireFitParents lk_11 (c_H_requireFitParents hc11) rfl rfl ?_
          refine ab_iload_n 28 d_H_correct_27 rfl ?_
          refine ab_iload_n 29 d_H_correct_28 rfl ?_
          refine ab_ic_ge 37 32 d_H_correct_29 (fun z14 => ?_) (fun z14 => ?_)
          · replace hyp := ab_pos z14 hyp
            cases hyp
            exact ab_throw te_4 rfl d_H_correct_37 d_H_correct_40 d_H_correct_41 d_H_correct_43 d_H_correct_46 (Nat.le_of_ble_eq_true rfl) (Nat.le_of_ble_eq_true rfl) rfl rfl (Nat.le_of_ble_eq_true rfl) (Nat.le_of_ble_eq_true rfl)
          · replace hyp := ab_neg z14 hyp
            refine ab_iload_n 33 d_H_correct_32 rfl ?_
            refine ab_iload_n 34 d_H_correct_33 rfl ?_
            refine ab_ic_lt 47 37 d_H_correct_34 (fun z15 => ?_) (fun z15 => ?_)
            · replace hyp := ab_pos z15 hyp
              refine ab_aload_n 48 d_H_correct_47 rfl ?_
              refine ab_get 51 d_H_correct_48 fd_1 rfl rfl ?_
              refine ab_iload_n 52 d_H_correct_51 rfl ?_
              refine ab_iload_n 53 d_H_correct_52 rfl ?_
              refine ab_iload_n 54 d_H_correct_53 rfl ?_
              obtain ⟨r17, hc16, hyp⟩ := ab_bind hyp
              refine ab_callV (h' := lay r17.2) 57 4 24 [] [.int r17.1] d_H_correct_54 ok_P_replaceParents lk_13 (c_P_replaceParents hc16) rfl rfl ?_
              cases hyp
              exact ab_ireturn d_H_correct_57 rfl rfl rfl (Nat.le_of_ble_eq_true rfl) (Nat.le_of_ble_eq_true rfl)
            · replace hyp := ab_neg z15 hyp
              cases hyp
              exact ab_throw te_4 rfl d_H_correct_37 d_H_correct_40 d_H_correct_41 d_H_correct_43 d_H_correct_46 (Nat.le_of_ble_eq_true rfl) (Nat.le_of_ble_eq_true rfl) rfl rfl (Nat.le_of_ble_eq_true rfl) (Nat.le_of_ble_eq_true rfl)
        · cases hyp
          refine ab_callVX (h' := lay M) 4 24 [] d_H_correct_24 ok_H_requireFitParents lk_11 (c_H_requireFitParents hc11) rfl rfl ?_
          exact ab_out rfl rfl rfl (Nat.le_of_ble_eq_true rfl) (Nat.le_of_ble_eq_true rfl)
      · cases hyp
        refine ab_callVX (h' := lay M) 3 18 [] d_H_correct_12 ok_H_requireAnimalOrNone lk_10 (c_H_requireAnimalOrNone hc7) rfl rfl ?_
        exact ab_out rfl rfl rfl (Nat.le_of_ble_eq_true rfl) (Nat.le_of_ble_eq_true rfl)
    · cases hyp
      refine ab_callVX (h' := lay M) 2 12 [] d_H_correct_7 ok_H_requireAnimalOrNone lk_10 (c_H_requireAnimalOrNone hc4) rfl rfl ?_
      exact ab_out rfl rfl rfl (Nat.le_of_ble_eq_true rfl) (Nat.le_of_ble_eq_true rfl)
  · cases hyp
    refine ab_callVX (h' := lay M) 1 6 [] d_H_correct_2 ok_H_requireAnimal lk_2 (c_H_requireAnimal hc1) rfl rfl ?_
    exact ab_out rfl rfl rfl (Nat.le_of_ble_eq_true rfl) (Nat.le_of_ble_eq_true rfl)
/-! H_countLiving -/
def H_countLiving_b4 (M : Me) (rec4 : Int32 → Int32 → Option Int32) (v1 : Int32) (v2 : Int32) : Option Int32 :=
  Option.bind (P_size M) (fun r2 => if r2 ≤ v2 then (some v1) else (gd (inb v2 24) (if (gI M 7 v2) = (0 : Int32) then (rec4 v1 (v2 + (1 : Int32))) else (rec4 (v1 + (1 : Int32)) (v2 + (1 : Int32))))))
def H_countLiving_L4 (M : Me) : Nat → Int32 → Int32 → Option Int32
  | 0, _, _ => none
  | F + 1, v1, v2 => H_countLiving_b4 M (H_countLiving_L4 M F) v1 v2
def H_countLiving (M : Me) : Option Int32 :=
  H_countLiving_L4 M 64 (0 : Int32) (0 : Int32)
def rm_H_countLiving : Room := { frames := 1, locals := 20, cells := 0, slots := 0 }
theorem q_H_countLiving_b4 {l : Launch} {D : va_G} {B : Nat} {ad : Nat → Nat} {r : Int32} (M : Me) (rec4 : Int32 → Int32 → Option Int32) (hrec4 : ∀ (v1 : Int32) (v2 : Int32) , rec4 v1 v2 = some r → ab_V (ab_km l D B ad y_H_countLiving rm_H_countLiving (.ok (some (.int r))) (lay M)) ad 4 [(0, .ref 0), (1, .int v1), (2, .int v2)] [] (lay M) 0 0) (v1 : Int32) (v2 : Int32) (hyp : H_countLiving_b4 M rec4 v1 v2 = some r) : ab_V (ab_km l D B ad y_H_countLiving rm_H_countLiving (.ok (some (.int r))) (lay M)) ad 4 [(0, .ref 0), (1, .int v1), (2, .int v2)] [] (lay M) 0 0 := by
  unfold H_countLiving_b4 at hyp
  refine ab_iload_n 5 d_H_countLiving_4 rfl ?_
  refine ab_aload_n 6 d_H_countLiving_5 rfl ?_
  refine ab_get 9 d_H_countLiving_6 fd_1 rfl rfl ?_
  obtain ⟨r2, hc1, hyp⟩ := ab_bind hyp
  refine ab_callV (h' := lay M) 12 0 0 [.int v2] [.int r2, .int v2] d_H_countLiving_9 ok_P_size lk_0 (c_P_size hc1) rfl rfl ?_
  refine ab_ic_ge 33 15 d_H_countLiving_12 (fun z3 => ?_) (fun z3 => ?_)
  · replace hyp := ab_pos z3 hyp
    refine ab_iload_n 34 d_H_countLiving_33 rfl ?_
    cases hyp
    exact ab_ireturn d_H_countLiving_34 rfl rfl rfl (Nat.le_of_ble_eq_true rfl) (Nat.le_of_ble_eq_true rfl)
  · replace hyp := ab_neg z3 hyp
    refine ab_aload_n 16 d_H_countLiving_15 rfl ?_
    refine ab_get 19 d_H_countLiving_16 fd_10 rfl rfl ?_
    refine ab_iload_n 20 d_H_countLiving_19 rfl ?_
    obtain ⟨g4, hyp⟩ := ab_gd hyp
    refine ab_zld 7 24 21 d_H_countLiving_20 rfl g4 ?_
    refine ab_if_eq 27 24 d_H_countLiving_21 (fun z5 => ?_) (fun z5 => ?_)
    · replace hyp := ab_pos z5 hyp
      refine ab_iinc 30 [(2, _), (0, _), (1, _)] d_H_countLiving_27 (1 : Int32) (by decide) rfl rfl ?_
      refine ab_goto 4 d_H_countLiving_30 ?_
      refine ab_pick [1, 2, 0] [(0, _), (1, _), (2, _)] rfl ?_
      exact hrec4 v1 (v2 + (1 : Int32)) hyp
    · replace hyp := ab_neg z5 hyp
      refine ab_iinc 27 [(1, _), (0, _), (2, _)] d_H_countLiving_24 (1 : Int32) (by decide) rfl rfl ?_
      refine ab_iinc 30 [(2, _), (1, _), (0, _)] d_H_countLiving_27 (1 : Int32) (by decide) rfl rfl ?_
      refine ab_goto 4 d_H_countLiving_30 ?_
      refine ab_pick [2, 1, 0] [(0, _), (1, _), (2, _)] rfl ?_
      exact hrec4 (v1 + (1 : Int32)) (v2 + (1 : Int32)) hyp
theorem q_H_countLiving_L4 {l : Launch} {D : va_G} {B : Nat} {ad : Nat → Nat} {r : Int32} (M : Me) : ∀ (F : Nat) (v1 : Int32) (v2 : Int32) , H_countLiving_L4 M F v1 v2 = some r → ab_V (ab_km l D B ad y_H_countLiving rm_H_countLiving (.ok (some (.int r))) (lay M)) ad 4 [(0, .ref 0), (1, .int v1), (2, .int v2)] [] (lay M) 0 0 := by
  intro F
  induction F with
  | zero =>
    intro v1 v2 hyp
    have h2 : (none : Option Int32) = some r := hyp
    cases h2
  | succ F ih =>
    intro v1 v2 hyp
    exact q_H_countLiving_b4 M (H_countLiving_L4 M F) ih v1 v2 hyp
theorem c_H_countLiving {M : Me} {r : Int32} (hyp : H_countLiving M = some r) : ab_Met y_H_countLiving rm_H_countLiving [.ref 0] (lay M) (.ok (some (.int r))) (lay M) := by
  refine ab_start rfl rfl (Nat.le_of_ble_eq_true rfl) (fun l D B ad => ?_)
  show ab_V _ ad 0 [(0, .ref 0)] [] _ 0 0
  unfold H_countLiving at hyp
  refine ab_iconst 1 d_H_countLiving_0 (0 : Int32) (by decide) ?_
  refine ab_istore_n 2 [(1, _), (0, _)] d_H_countLiving_1 rfl ?_
  refine ab_iconst 3 d_H_countLiving_2 (0 : Int32) (by decide) ?_
  refine ab_istore_n 4 [(2, _), (1, _), (0, _)] d_H_countLiving_3 rfl ?_
  refine ab_pick [2, 1, 0] [(0, _), (1, _), (2, _)] rfl ?_
  exact q_H_countLiving_L4 M 64 (0 : Int32) (0 : Int32) hyp
/-! H_cull -/
def H_cull (M : Me) (v1 : Int32) : Option (Except String Int32 × Me) :=
  ab_thrP (H_requireAnimal M v1) (fun r2 => gd (inb v1 24) (if (gI M 7 v1) = (0 : Int32) then (some (.error "java/lang/IllegalStateException", M)) else (gd (inb v1 24) (Option.bind (H_countLiving (sZ M 7 v1 (0 : Int32))) (fun r8 => some (.ok r8, (sZ M 7 v1 (0 : Int32)))))))) (fun E3 => some (.error E3, M))
def rm_H_cull : Room := { frames := 7, locals := 103, cells := 2, slots := 12 }
theorem c_H_cull {M : Me} {v1 : Int32} {r : Except String Int32 × Me} (hyp : H_cull M v1 = some r) : ab_Met y_H_cull rm_H_cull [.ref 0, .int v1] (lay M) (Except.map (fun v => some (.int v)) r.1) (lay r.2) := by
  refine ab_start rfl rfl (Nat.le_of_ble_eq_true rfl) (fun l D B ad => ?_)
  show ab_V _ ad 0 [(0, .ref 0), (1, .int v1)] [] _ 0 0
  unfold H_cull at hyp
  refine ab_aload_n 1 d_H_cull_0 rfl ?_
  refine ab_iload_n 2 d_H_cull_1 rfl ?_
  rcases ab_thrP_cases hyp with ⟨r2, hc1, hyp⟩ | ⟨E3, hc1, hyp⟩
  · refine ab_callV (h' := lay M) 5 1 6 [] [] d_H_cull_2 ok_H_requireAnimal lk_2 (c_H_requireAnimal hc1) rfl rfl ?_
    refine ab_aload_n 6 d_H_cull_5 rfl ?_
    refine ab_get 9 d_H_cull_6 fd_10 rfl rfl ?_
    refine ab_iload_n 10 d_H_cull_9 rfl ?_
    obtain ⟨g4, hyp⟩ := ab_gd hyp
    refine ab_zld 7 24 11 d_H_cull_10 rfl g4 ?_
    refine ab_if_ne 24 14 d_H_cull_11 (fun z5 => ?_) (fun z5 => ?_)
    · replace hyp := ab_neg z5 hyp
      refine ab_aload_n 25 d_H_cull_24 rfl ?_
      refine ab_get 28 d_H_cull_25 fd_10 rfl rfl ?_
      refine ab_iload_n 29 d_H_cull_28 rfl ?_
      refine ab_iconst 30 d_H_cull_29 (0 : Int32) (by decide) ?_
      obtain ⟨g6, hyp⟩ := ab_gd hyp
      refine ab_zst 7 24 31 d_H_cull_30 rfl g6 lay_Z7 ?_
      refine ab_aload_n 32 d_H_cull_31 rfl ?_
      obtain ⟨r8, hc7, hyp⟩ := ab_bind hyp
      refine ab_callV (h' := lay (sZ M 7 v1 (0 : Int32))) 35 1 6 [] [.int r8] d_H_cull_32 ok_H_countLiving lk_14 (c_H_countLiving hc7) rfl rfl ?_
      cases hyp
      exact ab_ireturn d_H_cull_35 rfl rfl rfl (Nat.le_of_ble_eq_true rfl) (Nat.le_of_ble_eq_true rfl)
    · replace hyp := ab_pos z5 hyp
      cases hyp
      exact ab_throw te_5 rfl d_H_cull_14 d_H_cull_17 d_H_cull_18 d_H_cull_20 d_H_cull_23 (Nat.le_of_ble_eq_true rfl) (Nat.le_of_ble_eq_true rfl) rfl rfl (Nat.le_of_ble_eq_true rfl) (Nat.le_of_ble_eq_true rfl)
  · cases hyp
    refine ab_callVX (h' := lay M) 1 6 [] d_H_cull_2 ok_H_requireAnimal lk_2 (c_H_requireAnimal hc1) rfl rfl ?_
    exact ab_out rfl rfl rfl (Nat.le_of_ble_eq_true rfl) (Nat.le_of_ble_eq_true rfl)
/-! P_sireOf -/
def P_sireOf (M : Me) (v1 : Int32) : Option Int32 :=
  gd (inb v1 24) (some (gI M 0 v1))
def rm_P_sireOf : Room := { frames := 0, locals := 0, cells := 0, slots := 0 }
theorem c_P_sireOf {M : Me} {v1 : Int32} {r : Int32} (hyp : P_sireOf M v1 = some r) : ab_Met y_P_sireOf rm_P_sireOf [.ref 1, .int v1] (lay M) (.ok (some (.int r))) (lay M) := by
  refine ab_start rfl rfl (Nat.le_of_ble_eq_true rfl) (fun l D B ad => ?_)
  show ab_V _ ad 0 [(0, .ref 1), (1, .int v1)] [] _ 0 0
  unfold P_sireOf at hyp
  refine ab_aload_n 1 d_P_sireOf_0 rfl ?_
  refine ab_get 4 d_P_sireOf_1 fd_4 rfl rfl ?_
  refine ab_iload_n 5 d_P_sireOf_4 rfl ?_
  obtain ⟨g1, hyp⟩ := ab_gd hyp
  refine ab_ild 0 24 6 d_P_sireOf_5 rfl g1 ?_
  cases hyp
  exact ab_ireturn d_P_sireOf_6 rfl rfl rfl (Nat.le_of_ble_eq_true rfl) (Nat.le_of_ble_eq_true rfl)
/-! P_damOf -/
def P_damOf (M : Me) (v1 : Int32) : Option Int32 :=
  gd (inb v1 24) (some (gI M 1 v1))
def rm_P_damOf : Room := { frames := 0, locals := 0, cells := 0, slots := 0 }
theorem c_P_damOf {M : Me} {v1 : Int32} {r : Int32} (hyp : P_damOf M v1 = some r) : ab_Met y_P_damOf rm_P_damOf [.ref 1, .int v1] (lay M) (.ok (some (.int r))) (lay M) := by
  refine ab_start rfl rfl (Nat.le_of_ble_eq_true rfl) (fun l D B ad => ?_)
  show ab_V _ ad 0 [(0, .ref 1), (1, .int v1)] [] _ 0 0
  unfold P_damOf at hyp
  refine ab_aload_n 1 d_P_damOf_0 rfl ?_
  refine ab_get 4 d_P_damOf_1 fd_5 rfl rfl ?_
  refine ab_iload_n 5 d_P_damOf_4 rfl ?_
  obtain ⟨g1, hyp⟩ := ab_gd hyp
  refine ab_ild 1 24 6 d_P_damOf_5 rfl g1 ?_
  cases hyp
  exact ab_ireturn d_P_damOf_6 rfl rfl rfl (Nat.le_of_ble_eq_true rfl) (Nat.le_of_ble_eq_true rfl)
/-! P_depthOf -/
def P_depthOf (M : Me) (v1 : Int32) : Option Int32 :=
  gd (inb v1 24) (some (gI M 2 v1))
def rm_P_depthOf : Room := { frames := 0, locals := 0, cells := 0, slots := 0 }
theorem c_P_depthOf {M : Me} {v1 : Int32} {r : Int32} (hyp : P_depthOf M v1 = some r) : ab_Met y_P_depthOf rm_P_depthOf [.ref 1, .int v1] (lay M) (.ok (some (.int r))) (lay M) := by
  refine ab_start rfl rfl (Nat.le_of_ble_eq_true rfl) (fun l D B ad => ?_)
  show ab_V _ ad 0 [(0, .ref 1), (1, .int v1)] [] _ 0 0
  unfold P_depthOf at hyp
  refine ab_aload_n 1 d_P_depthOf_0 rfl ?_
  refine ab_get 4 d_P_depthOf_1 fd_6 rfl rfl ?_
  refine ab_iload_n 5 d_P_depthOf_4 rfl ?_
  obtain ⟨g1, hyp⟩ := ab_gd hyp
  refine ab_ild 2 24 6 d_P_depthOf_5 rfl g1 ?_
  cases hyp
  exact ab_ireturn d_P_depthOf_6 rfl rfl rfl (Nat.le_of_ble_eq_true rfl) (Nat.le_of_ble_eq_true rfl)
/-! H_of -/
def H_of (M : Me) (v1 : Int32) (v2 : Int32) : Option (Except String Int32) :=
  ab_thrP (H_requireAnimal M v1) (fun r2 => if v2 = (0 : Int32) then (Option.bind (P_sireOf M v1) (fun r5 => some (.ok r5))) else (if v2 = (1 : Int32) then (Option.bind (P_damOf M v1) (fun r7 => some (.ok r7))) else (if v2 = (2 : Int32) then (gd (inb v1 24) (some (.ok (gI M 5 v1)))) else (if v2 = (3 : Int32) then (gd (inb v1 24) (some (.ok (gI M 6 v1)))) else (if v2 = (4 : Int32) then (gd (inb v1 24) (if (gI M 7 v1) = (0 : Int32) then (some (.ok (0 : Int32))) else (some (.ok (1 : Int32))))) else (if v2 = (5 : Int32) then (Option.bind (P_depthOf M v1) (fun r13 => some (.ok r13))) else (some (.error "java/lang/IndexOutOfBoundsException")))))))) (fun E3 => some (.error E3))
def rm_H_of : Room := { frames := 7, locals := 103, cells := 2, slots := 12 }
theorem c_H_of {M : Me} {v1 : Int32} {v2 : Int32} {r : Except String Int32} (hyp : H_of M v1 v2 = some r) : ab_Met y_H_of rm_H_of [.ref 0, .int v1, .int v2] (lay M) (Except.map (fun v => some (.int v)) r) (lay M) := by
  refine ab_start rfl rfl (Nat.le_of_ble_eq_true rfl) (fun l D B ad => ?_)
  show ab_V _ ad 0 [(0, .ref 0), (1, .int v1), (2, .int v2)] [] _ 0 0
  unfold H_of at hyp
  refine ab_aload_n 1 d_H_of_0 rfl ?_
  refine ab_iload_n 2 d_H_of_1 rfl ?_
  rcases ab_thrP_cases hyp with ⟨r2, hc1, hyp⟩ | ⟨E3, hc1, hyp⟩
  · refine ab_callV (h' := lay M) 5 1 6 [] [] d_H_of_2 ok_H_requireAnimal lk_2 (c_H_requireAnimal hc1) rfl rfl ?_
    refine ab_iload_n 6 d_H_of_5 rfl ?_
    by_cases zH_of0 : v2 = (0 : Int32)
    · replace hyp := ab_pos zH_of0 hyp
      refine ab_tabIn 44 d_H_of_6 (by rw [zH_of0]; decide) (by rw [zH_of0]; decide) (by rw [zH_of0]; rfl) ?_
      refine ab_aload_n 45 d_H_of_44 rfl ?_
      refine ab_get 48 d_H_of_45 fd_1 rfl rfl ?_
      refine ab_iload_n 49 d_H_of_48 rfl ?_
      obtain ⟨r5, hc4, hyp⟩ := ab_bind hyp
      refine ab_callV (h' := lay M) 52 1 6 [] [.int r5] d_H_of_49 ok_P_sireOf lk_15 (c_P_sireOf hc4) rfl rfl ?_
      cases hyp
      exact ab_ireturn d_H_of_52 rfl rfl rfl (Nat.le_of_ble_eq_true rfl) (Nat.le_of_ble_eq_true rfl)
    · replace hyp := ab_neg zH_of0 hyp
      by_cases zH_of1 : v2 = (1 : Int32)
      · replace hyp := ab_pos zH_of1 hyp
        refine ab_tabIn 53 d_H_of_6 (by rw [zH_of1]; decide) (by rw [zH_of1]; decide) (by rw [zH_of1]; rfl) ?_
        refine ab_aload_n 54 d_H_of_53 rfl ?_
        refine ab_get 57 d_H_of_54 fd_1 rfl rfl ?_
        refine ab_iload_n 58 d_H_of_57 rfl ?_
        obtain ⟨r7, hc6, hyp⟩ := ab_bind hyp
        refine ab_callV (h' := lay M) 61 1 6 [] [.int r7] d_H_of_58 ok_P_damOf lk_16 (c_P_damOf hc6) rfl rfl ?_
        cases hyp
        exact ab_ireturn d_H_of_61 rfl rfl rfl (Nat.le_of_ble_eq_true rfl) (Nat.le_of_ble_eq_true rfl)
      · replace hyp := ab_neg zH_of1 hyp
        by_cases zH_of2 : v2 = (2 : Int32)
        · replace hyp := ab_pos zH_of2 hyp
          refine ab_tabIn 62 d_H_of_6 (by rw [zH_of2]; decide) (by rw [zH_of2]; decide) (by rw [zH_of2]; rfl) ?_
          refine ab_aload_n 63 d_H_of_62 rfl ?_
          refine ab_get 66 d_H_of_63 fd_2 rfl rfl ?_
          refine ab_iload_n 67 d_H_of_66 rfl ?_
          obtain ⟨g8, hyp⟩ := ab_gd hyp
          refine ab_ild 5 24 68 d_H_of_67 rfl g8 ?_
          cases hyp
          exact ab_ireturn d_H_of_68 rfl rfl rfl (Nat.le_of_ble_eq_true rfl) (Nat.le_of_ble_eq_true rfl)
        · replace hyp := ab_neg zH_of2 hyp
          by_cases zH_of3 : v2 = (3 : Int32)
          · replace hyp := ab_pos zH_of3 hyp
            refine ab_tabIn 69 d_H_of_6 (by rw [zH_of3]; decide) (by rw [zH_of3]; decide) (by rw [zH_of3]; rfl) ?_
            refine ab_aload_n 70 d_H_of_69 rfl ?_
            refine ab_get 73 d_H_of_70 fd_3 rfl rfl ?_
            refine ab_iload_n 74 d_H_of_73 rfl ?_
            obtain ⟨g9, hyp⟩ := ab_gd hyp
            refine ab_ild 6 24 75 d_H_of_74 rfl g9 ?_
            cases hyp
            exact ab_ireturn d_H_of_75 rfl rfl rfl (Nat.le_of_ble_eq_true rfl) (Nat.le_of_ble_eq_true rfl)
          · replace hyp := ab_neg zH_of3 hyp
            by_cases zH_of4 : v2 = (4 : Int32)
            · replace hyp := ab_pos zH_of4 hyp
              refine ab_tabIn 76 d_H_of_6 (by rw [zH_of4]; decide) (by rw [zH_of4]; decide) (by rw [zH_of4]; rfl) ?_
              refine ab_aload_n 77 d_H_of_76 rfl ?_
              refine ab_get 80 d_H_of_77 fd_10 rfl rfl ?_
              refine ab_iload_n 81 d_H_of_80 rfl ?_
              obtain ⟨g10, hyp⟩ := ab_gd hyp
              refine ab_zld 7 24 82 d_H_of_81 rfl g10 ?_
              refine ab_if_eq 89 85 d_H_of_82 (fun z11 => ?_) (fun z11 => ?_)
              · replace hyp := ab_pos z11 hyp
                refine ab_iconst 90 d_H_of_89 (0 : Int32) (by decide) ?_
                cases hyp
                exact ab_ireturn d_H_of_90 rfl rfl rfl (Nat.le_of_ble_eq_true rfl) (Nat.le_of_ble_eq_true rfl)
              · replace hyp := ab_neg z11 hyp
                refine ab_iconst 86 d_H_of_85 (1 : Int32) (by decide) ?_
                refine ab_goto 90 d_H_of_86 ?_
                cases hyp
                exact ab_ireturn d_H_of_90 rfl rfl rfl (Nat.le_of_ble_eq_true rfl) (Nat.le_of_ble_eq_true rfl)
            · replace hyp := ab_neg zH_of4 hyp
              by_cases zH_of5 : v2 = (5 : Int32)
              · replace hyp := ab_pos zH_of5 hyp
                refine ab_tabIn 91 d_H_of_6 (by rw [zH_of5]; decide) (by rw [zH_of5]; decide) (by rw [zH_of5]; rfl) ?_
                refine ab_aload_n 92 d_H_of_91 rfl ?_
                refine ab_get 95 d_H_of_92 fd_1 rfl rfl ?_
                refine ab_iload_n 96 d_H_of_95 rfl ?_
                obtain ⟨r13, hc12, hyp⟩ := ab_bind hyp
                refine ab_callV (h' := lay M) 99 1 6 [] [.int r13] d_H_of_96 ok_P_depthOf lk_17 (c_P_depthOf hc12) rfl rfl ?_
                cases hyp
                exact ab_ireturn d_H_of_99 rfl rfl rfl (Nat.le_of_ble_eq_true rfl) (Nat.le_of_ble_eq_true rfl)
              · replace hyp := ab_neg zH_of5 hyp
                refine ab_tabOut 100 d_H_of_6 (ab_sw6 zH_of0 zH_of1 zH_of2 zH_of3 zH_of4 zH_of5) ?_
                cases hyp
                exact ab_throw te_6 rfl d_H_of_100 d_H_of_103 d_H_of_104 d_H_of_106 d_H_of_109 (Nat.le_of_ble_eq_true rfl) (Nat.le_of_ble_eq_true rfl) rfl rfl (Nat.le_of_ble_eq_true rfl) (Nat.le_of_ble_eq_true rfl)
  · cases hyp
    refine ab_callVX (h' := lay M) 1 6 [] d_H_of_2 ok_H_requireAnimal lk_2 (c_H_requireAnimal hc1) rfl rfl ?_
    exact ab_out rfl rfl rfl (Nat.le_of_ble_eq_true rfl) (Nat.le_of_ble_eq_true rfl)
/-! H_animals -/
def H_animals (M : Me) : Option Int32 :=
  Option.bind (P_size M) (fun r2 => some r2)
def rm_H_animals : Room := { frames := 1, locals := 20, cells := 0, slots := 0 }
theorem c_H_animals {M : Me} {r : Int32} (hyp : H_animals M = some r) : ab_Met y_H_animals rm_H_animals [.ref 0] (lay M) (.ok (some (.int r))) (lay M) := by
  refine ab_start rfl rfl (Nat.le_of_ble_eq_true rfl) (fun l D B ad => ?_)
  show ab_V _ ad 0 [(0, .ref 0)] [] _ 0 0
  unfold H_animals at hyp
  refine ab_aload_n 1 d_H_animals_0 rfl ?_
  refine ab_get 4 d_H_animals_1 fd_1 rfl rfl ?_
  obtain ⟨r2, hc1, hyp⟩ := ab_bind hyp
  refine ab_callV (h' := lay M) 7 0 0 [] [.int r2] d_H_animals_4 ok_P_size lk_0 (c_P_size hc1) rfl rfl ?_
  cases hyp
  exact ab_ireturn d_H_animals_7 rfl rfl rfl (Nat.le_of_ble_eq_true rfl) (Nat.le_of_ble_eq_true rfl)
/-! H_kinship -/
def H_kinship (M : Me) (v1 : Int32) (v2 : Int32) : Option (Except String Int64) :=
  ab_thrP (H_requireAnimal M v1) (fun r2 => ab_thrP (H_requireAnimal M v2) (fun r5 => Option.bind (P_kinOf M v1 v2) (fun r8 => some (.ok r8))) (fun E6 => some (.error E6))) (fun E3 => some (.error E3))
def rm_H_kinship : Room := { frames := 7, locals := 103, cells := 2, slots := 12 }
theorem c_H_kinship {M : Me} {v1 : Int32} {v2 : Int32} {r : Except String Int64} (hyp : H_kinship M v1 v2 = some r) : ab_Met y_H_kinship rm_H_kinship [.ref 0, .int v1, .int v2] (lay M) (Except.map (fun v => some (.long v)) r) (lay M) := by
  refine ab_start rfl rfl (Nat.le_of_ble_eq_true rfl) (fun l D B ad => ?_)
  show ab_V _ ad 0 [(0, .ref 0), (1, .int v1), (2, .int v2)] [] _ 0 0
  unfold H_kinship at hyp
  refine ab_aload_n 1 d_H_kinship_0 rfl ?_
  refine ab_iload_n 2 d_H_kinship_1 rfl ?_
  rcases ab_thrP_cases hyp with ⟨r2, hc1, hyp⟩ | ⟨E3, hc1, hyp⟩
  · refine ab_callV (h' := lay M) 5 1 6 [] [] d_H_kinship_2 ok_H_requireAnimal lk_2 (c_H_requireAnimal hc1) rfl rfl ?_
    refine ab_aload_n 6 d_H_kinship_5 rfl ?_
    refine ab_iload_n 7 d_H_kinship_6 rfl ?_
    rcases ab_thrP_cases hyp with ⟨r5, hc4, hyp⟩ | ⟨E6, hc4, hyp⟩
    · refine ab_callV (h' := lay M) 10 2 12 [] [] d_H_kinship_7 ok_H_requireAnimal lk_2 (c_H_requireAnimal hc4) rfl rfl ?_
      refine ab_aload_n 11 d_H_kinship_10 rfl ?_
      refine ab_get 14 d_H_kinship_11 fd_1 rfl rfl ?_
      refine ab_iload_n 15 d_H_kinship_14 rfl ?_
      refine ab_iload_n 16 d_H_kinship_15 rfl ?_
      obtain ⟨r8, hc7, hyp⟩ := ab_bind hyp
      refine ab_callV (h' := lay M) 19 2 12 [] [.long r8] d_H_kinship_16 ok_P_kinOf lk_18 (c_P_kinOf hc7) rfl rfl ?_
      cases hyp
      exact ab_lreturn d_H_kinship_19 rfl rfl rfl (Nat.le_of_ble_eq_true rfl) (Nat.le_of_ble_eq_true rfl)
    · cases hyp
      refine ab_callVX (h' := lay M) 2 12 [] d_H_kinship_7 ok_H_requireAnimal lk_2 (c_H_requireAnimal hc4) rfl rfl ?_
      exact ab_out rfl rfl rfl (Nat.le_of_ble_eq_true rfl) (Nat.le_of_ble_eq_true rfl)
  · cases hyp
    refine ab_callVX (h' := lay M) 1 6 [] d_H_kinship_2 ok_H_requireAnimal lk_2 (c_H_requireAnimal hc1) rfl rfl ?_
    exact ab_out rfl rfl rfl (Nat.le_of_ble_eq_true rfl) (Nat.le_of_ble_eq_true rfl)
/-! P_inbreedingOf -/
def P_inbreedingOf (M : Me) (v1 : Int32) : Option Int64 :=
  gd (inb v1 24) (some (gL M 0 v1))
def rm_P_inbreedingOf : Room := { frames := 0, locals := 0, cells := 0, slots := 0 }
theorem c_P_inbreedingOf {M : Me} {v1 : Int32} {r : Int64} (hyp : P_inbreedingOf M v1 = some r) : ab_Met y_P_inbreedingOf rm_P_inbreedingOf [.ref 1, .int v1] (lay M) (.ok (some (.long r))) (lay M) := by
  refine ab_start rfl rfl (Nat.le_of_ble_eq_true rfl) (fun l D B ad => ?_)
  show ab_V _ ad 0 [(0, .ref 1), (1, .int v1)] [] _ 0 0
  unfold P_inbreedingOf at hyp
  refine ab_aload_n 1 d_P_inbreedingOf_0 rfl ?_
  refine ab_get 4 d_P_inbreedingOf_1 fd_9 rfl rfl ?_
  refine ab_iload_n 5 d_P_inbreedingOf_4 rfl ?_
  obtain ⟨g1, hyp⟩ := ab_gd hyp
  refine ab_lld 0 24 6 d_P_inbreedingOf_5 rfl g1 ?_
  cases hyp
  exact ab_lreturn d_P_inbreedingOf_6 rfl rfl rfl (Nat.le_of_ble_eq_true rfl) (Nat.le_of_ble_eq_true rfl)
/-! H_inbreeding -/
def H_inbreeding (M : Me) (v1 : Int32) : Option (Except String Int64) :=
  ab_thrP (H_requireAnimal M v1) (fun r2 => Option.bind (P_inbreedingOf M v1) (fun r5 => some (.ok r5))) (fun E3 => some (.error E3))
def rm_H_inbreeding : Room := { frames := 7, locals := 103, cells := 1, slots := 6 }
theorem c_H_inbreeding {M : Me} {v1 : Int32} {r : Except String Int64} (hyp : H_inbreeding M v1 = some r) : ab_Met y_H_inbreeding rm_H_inbreeding [.ref 0, .int v1] (lay M) (Except.map (fun v => some (.long v)) r) (lay M) := by
  refine ab_start rfl rfl (Nat.le_of_ble_eq_true rfl) (fun l D B ad => ?_)
  show ab_V _ ad 0 [(0, .ref 0), (1, .int v1)] [] _ 0 0
  unfold H_inbreeding at hyp
  refine ab_aload_n 1 d_H_inbreeding_0 rfl ?_
  refine ab_iload_n 2 d_H_inbreeding_1 rfl ?_
  rcases ab_thrP_cases hyp with ⟨r2, hc1, hyp⟩ | ⟨E3, hc1, hyp⟩
  · refine ab_callV (h' := lay M) 5 1 6 [] [] d_H_inbreeding_2 ok_H_requireAnimal lk_2 (c_H_requireAnimal hc1) rfl rfl ?_
    refine ab_aload_n 6 d_H_inbreeding_5 rfl ?_
    refine ab_get 9 d_H_inbreeding_6 fd_1 rfl rfl ?_
    refine ab_iload_n 10 d_H_inbreeding_9 rfl ?_
    obtain ⟨r5, hc4, hyp⟩ := ab_bind hyp
    refine ab_callV (h' := lay M) 13 1 6 [] [.long r5] d_H_inbreeding_10 ok_P_inbreedingOf lk_19 (c_P_inbreedingOf hc4) rfl rfl ?_
    cases hyp
    exact ab_lreturn d_H_inbreeding_13 rfl rfl rfl (Nat.le_of_ble_eq_true rfl) (Nat.le_of_ble_eq_true rfl)
  · cases hyp
    refine ab_callVX (h' := lay M) 1 6 [] d_H_inbreeding_2 ok_H_requireAnimal lk_2 (c_H_requireAnimal hc1) rfl rfl ?_
    exact ab_out rfl rfl rfl (Nat.le_of_ble_eq_true rfl) (Nat.le_of_ble_eq_true rfl)
/-! H_calf -/
def H_calf (M : Me) (v1 : Int32) (v2 : Int32) : Option (Except String Int64) :=
  ab_thrP (H_requireAnimal M v1) (fun r2 => ab_thrP (H_requireAnimal M v2) (fun r5 => Option.bind (P_kinOf M v1 v2) (fun r8 => some (.ok r8))) (fun E6 => some (.error E6))) (fun E3 => some (.error E3))
def rm_H_calf : Room := { frames := 7, locals := 103, cells := 2, slots := 12 }
theorem c_H_calf {M : Me} {v1 : Int32} {v2 : Int32} {r : Except String Int64} (hyp : H_calf M v1 v2 = some r) : ab_Met y_H_calf rm_H_calf [.ref 0, .int v1, .int v2] (lay M) (Except.map (fun v => some (.long v)) r) (lay M) := by
  refine ab_start rfl rfl (Nat.le_of_ble_eq_true rfl) (fun l D B ad => ?_)
  show ab_V _ ad 0 [(0, .ref 0), (1, .int v1), (2, .int v2)] [] _ 0 0
  unfold H_calf at hyp
  refine ab_aload_n 1 d_H_calf_0 rfl ?_
  refine ab_iload_n 2 d_H_calf_1 rfl ?_
  rcases ab_thrP_cases hyp with ⟨r2, hc1, hyp⟩ | ⟨E3, hc1, hyp⟩
  · refine ab_callV (h' := lay M) 5 1 6 [] [] d_H_calf_2 ok_H_requireAnimal lk_2 (c_H_requireAnimal hc1) rfl rfl ?_
    refine ab_aload_n 6 d_H_calf_5 rfl ?_
    refine ab_iload_n 7 d_H_calf_6 rfl ?_
    rcases ab_thrP_cases hyp with ⟨r5, hc4, hyp⟩ | ⟨E6, hc4, hyp⟩
    · refine ab_callV (h' := lay M) 10 2 12 [] [] d_H_calf_7 ok_H_requireAnimal lk_2 (c_H_requireAnimal hc4) rfl rfl ?_
      refine ab_aload_n 11 d_H_calf_10 rfl ?_
      refine ab_get 14 d_H_calf_11 fd_1 rfl rfl ?_
      refine ab_iload_n 15 d_H_calf_14 rfl ?_
      refine ab_iload_n 16 d_H_calf_15 rfl ?_
      obtain ⟨r8, hc7, hyp⟩ := ab_bind hyp
      refine ab_callV (h' := lay M) 19 2 12 [] [.long r8] d_H_calf_16 ok_P_kinOf lk_18 (c_P_kinOf hc7) rfl rfl ?_
      cases hyp
      exact ab_lreturn d_H_calf_19 rfl rfl rfl (Nat.le_of_ble_eq_true rfl) (Nat.le_of_ble_eq_true rfl)
    · cases hyp
      refine ab_callVX (h' := lay M) 2 12 [] d_H_calf_7 ok_H_requireAnimal lk_2 (c_H_requireAnimal hc4) rfl rfl ?_
      exact ab_out rfl rfl rfl (Nat.le_of_ble_eq_true rfl) (Nat.le_of_ble_eq_true rfl)
  · cases hyp
    refine ab_callVX (h' := lay M) 1 6 [] d_H_calf_2 ok_H_requireAnimal lk_2 (c_H_requireAnimal hc1) rfl rfl ?_
    exact ab_out rfl rfl rfl (Nat.le_of_ble_eq_true rfl) (Nat.le_of_ble_eq_true rfl)
/-! H_requireFounder -/
def H_requireFounder (M : Me) (v1 : Int32) : Option (Except String Unit) :=
  Option.bind (P_isFounder M v1) (fun r2 => if r2 = (0 : Int32) then (some (.error "java/lang/UnsupportedOperationException")) else (some (.ok ())))
def rm_H_requireFounder : Room := { frames := 6, locals := 82, cells := 1, slots := 6 }
theorem c_H_requireFounder {M : Me} {v1 : Int32} {r : Except String Unit} (hyp : H_requireFounder M v1 = some r) : ab_Met y_H_requireFounder rm_H_requireFounder [.ref 0, .int v1] (lay M) (Except.map (fun _ => none) r) (lay M) := by
  refine ab_start rfl rfl (Nat.le_of_ble_eq_true rfl) (fun l D B ad => ?_)
  show ab_V _ ad 0 [(0, .ref 0), (1, .int v1)] [] _ 0 0
  unfold H_requireFounder at hyp
  refine ab_aload_n 1 d_H_requireFounder_0 rfl ?_
  refine ab_get 4 d_H_requireFounder_1 fd_1 rfl rfl ?_
  refine ab_iload_n 5 d_H_requireFounder_4 rfl ?_
  obtain ⟨r2, hc1, hyp⟩ := ab_bind hyp
  refine ab_callV (h' := lay M) 8 0 0 [] [.int r2] d_H_requireFounder_5 ok_P_isFounder lk_20 (c_P_isFounder hc1) rfl rfl ?_
  refine ab_if_ne 21 11 d_H_requireFounder_8 (fun z3 => ?_) (fun z3 => ?_)
  · replace hyp := ab_neg z3 hyp
    cases hyp
    exact ab_return d_H_requireFounder_21 rfl rfl rfl (Nat.le_of_ble_eq_true rfl) (Nat.le_of_ble_eq_true rfl)
  · replace hyp := ab_pos z3 hyp
    cases hyp
    exact ab_throw te_7 rfl d_H_requireFounder_11 d_H_requireFounder_14 d_H_requireFounder_15 d_H_requireFounder_17 d_H_requireFounder_20 (Nat.le_of_ble_eq_true rfl) (Nat.le_of_ble_eq_true rfl) rfl rfl (Nat.le_of_ble_eq_true rfl) (Nat.le_of_ble_eq_true rfl)
/-! P_shareUpTo -/
def P_shareUpTo (M : Me) (v1 : Int32) (v2 : Int32) : Option Int64 :=
  if v1 ≤ v2 then (gd (inb v2 24) (some (gL M 1 v2))) else (some (0 : Int64))
def rm_P_shareUpTo : Room := { frames := 0, locals := 0, cells := 0, slots := 0 }
theorem c_P_shareUpTo {M : Me} {v1 : Int32} {v2 : Int32} {r : Int64} (hyp : P_shareUpTo M v1 v2 = some r) : ab_Met y_P_shareUpTo rm_P_shareUpTo [.ref 1, .int v1, .int v2] (lay M) (.ok (some (.long r))) (lay M) := by
  refine ab_start rfl rfl (Nat.le_of_ble_eq_true rfl) (fun l D B ad => ?_)
  show ab_V _ ad 0 [(0, .ref 1), (1, .int v1), (2, .int v2)] [] _ 0 0
  unfold P_shareUpTo at hyp
  refine ab_iload_n 1 d_P_shareUpTo_0 rfl ?_
  refine ab_iload_n 2 d_P_shareUpTo_1 rfl ?_
  refine ab_ic_ge 9 5 d_P_shareUpTo_2 (fun z1 => ?_) (fun z1 => ?_)
  · replace hyp := ab_pos z1 hyp
    refine ab_aload_n 10 d_P_shareUpTo_9 rfl ?_
    refine ab_get 13 d_P_shareUpTo_10 fd_11 rfl rfl ?_
    refine ab_iload_n 14 d_P_shareUpTo_13 rfl ?_
    obtain ⟨g2, hyp⟩ := ab_gd hyp
    refine ab_lld 1 24 15 d_P_shareUpTo_14 rfl g2 ?_
    cases hyp
    exact ab_lreturn d_P_shareUpTo_15 rfl rfl rfl (Nat.le_of_ble_eq_true rfl) (Nat.le_of_ble_eq_true rfl)
  · replace hyp := ab_neg z1 hyp
    refine ab_lconst 6 d_P_shareUpTo_5 (0 : Int64) (by decide) ?_
    refine ab_goto 15 d_P_shareUpTo_6 ?_
    cases hyp
    exact ab_lreturn d_P_shareUpTo_15 rfl rfl rfl (Nat.le_of_ble_eq_true rfl) (Nat.le_of_ble_eq_true rfl)
/-! P_shareOf -/
def P_shareOf_b2 (rec2 : Int32 → Int32 → Int32 → Me → Option (Int64 × Me)) (v1 : Int32) (v2 : Int32) (v3 : Int32) (M : Me) : Option (Int64 × Me) :=
  if v2 < v3 then (Option.bind (P_shareUpTo M v1 v2) (fun r3 => some (r3, M))) else (if v3 = v1 then (gd (inb v3 24) (rec2 v1 v2 (v3 + (1 : Int32)) (sL M 1 v3 (1125899906842624 : Int64)))) else (gd (inb v3 24) (Option.bind (P_shareUpTo M v1 (gI M 0 v3)) (fun r7 => gd (inb v3 24) (Option.bind (P_shareUpTo M v1 (gI M 1 v3)) (fun r10 => gd (inb v3 24) (rec2 v1 v2 (v3 + (1 : Int32)) (sL M 1 v3 ((r7 + r10) / (2 : Int64))))))))))
def P_shareOf_L2 : Nat → Int32 → Int32 → Int32 → Me → Option (Int64 × Me)
  | 0, _, _, _, _ => none
  | F + 1, v1, v2, v3, M => P_shareOf_b2 (P_shareOf_L2 F) v1 v2 v3 M
def P_shareOf (M : Me) (v1 : Int32) (v2 : Int32) : Option (Int64 × Me) :=
  P_shareOf_L2 64 v1 v2 v1 M
def rm_P_shareOf : Room := { frames := 1, locals := 22, cells := 0, slots := 0 }
theorem q_P_shareOf_b2 {l : Launch} {D : va_G} {B : Nat} {ad : Nat → Nat} {r : Int64 × Me} (rec2 : Int32 → Int32 → Int32 → Me → Option (Int64 × Me)) (hrec2 : ∀ (v1 : Int32) (v2 : Int32) (v3 : Int32) (M : Me) , rec2 v1 v2 v3 M = some r → ab_V (ab_km l D B ad y_P_shareOf rm_P_shareOf (.ok (some (.long r.1))) (lay r.2)) ad 2 [(0, .ref 1), (1, .int v1), (2, .int v2), (3, .int v3)] [] (lay M) 0 0) (v1 : Int32) (v2 : Int32) (v3 : Int32) (M : Me) (hyp : P_shareOf_b2 rec2 v1 v2 v3 M = some r) : ab_V (ab_km l D B ad y_P_shareOf rm_P_shareOf (.ok (some (.long r.1))) (lay r.2)) ad 2 [(0, .ref 1), (1, .int v1), (2, .int v2), (3, .int v3)] [] (lay M) 0 0 := by
  unfold P_shareOf_b2 at hyp
  refine ab_iload_n 3 d_P_shareOf_2 rfl ?_
  refine ab_iload_n 4 d_P_shareOf_3 rfl ?_
  refine ab_ic_gt 57 7 d_P_shareOf_4 (fun z1 => ?_) (fun z1 => ?_)
  · replace hyp := ab_pos z1 hyp
    refine ab_aload_n 58 d_P_shareOf_57 rfl ?_
    refine ab_iload_n 59 d_P_shareOf_58 rfl ?_
    refine ab_iload_n 60 d_P_shareOf_59 rfl ?_
    obtain ⟨r3, hc2, hyp⟩ := ab_bind hyp
    refine ab_callV (h' := lay M) 63 0 0 [] [.long r3] d_P_shareOf_60 ok_P_shareUpTo lk_21 (c_P_shareUpTo hc2) rfl rfl ?_
    cases hyp
    exact ab_lreturn d_P_shareOf_63 rfl rfl rfl (Nat.le_of_ble_eq_true rfl) (Nat.le_of_ble_eq_true rfl)
  · replace hyp := ab_neg z1 hyp
    refine ab_aload_n 8 d_P_shareOf_7 rfl ?_
    refine ab_get 11 d_P_shareOf_8 fd_11 rfl rfl ?_
    refine ab_iload_n 12 d_P_shareOf_11 rfl ?_
    refine ab_iload_n 13 d_P_shareOf_12 rfl ?_
    refine ab_iload_n 14 d_P_shareOf_13 rfl ?_
    refine ab_ic_ne 23 17 d_P_shareOf_14 (fun z4 => ?_) (fun z4 => ?_)
    · replace hyp := ab_neg z4 hyp
      refine ab_aload_n 24 d_P_shareOf_23 rfl ?_
      refine ab_iload_n 25 d_P_shareOf_24 rfl ?_
      refine ab_aload_n 26 d_P_shareOf_25 rfl ?_
      refine ab_get 29 d_P_shareOf_26 fd_4 rfl rfl ?_
      refine ab_iload_n 30 d_P_shareOf_29 rfl ?_
      obtain ⟨g5, hyp⟩ := ab_gd hyp
      refine ab_ild 0 24 31 d_P_shareOf_30 rfl g5 ?_
      obtain ⟨r7, hc6, hyp⟩ := ab_bind hyp
      refine ab_callV (h' := lay M) 34 0 0 [.int v3, .ref 30] [.long r7, .int v3, .ref 30] d_P_shareOf_31 ok_P_shareUpTo lk_21 (c_P_shareUpTo hc6) rfl rfl ?_
      refine ab_aload_n 35 d_P_shareOf_34 rfl ?_
      refine ab_iload_n 36 d_P_shareOf_35 rfl ?_
      refine ab_aload_n 37 d_P_shareOf_36 rfl ?_
      refine ab_get 40 d_P_shareOf_37 fd_5 rfl rfl ?_
      refine ab_iload_n 41 d_P_shareOf_40 rfl ?_
      obtain ⟨g8, hyp⟩ := ab_gd hyp
      refine ab_ild 1 24 42 d_P_shareOf_41 rfl g8 ?_
      obtain ⟨r10, hc9, hyp⟩ := ab_bind hyp
      refine ab_callV (h' := lay M) 45 0 0 [.long r7, .int v3, .ref 30] [.long r10, .long r7, .int v3, .ref 30] d_P_shareOf_42 ok_P_shareUpTo lk_21 (c_P_shareUpTo hc9) rfl rfl ?_
      refine ab_ladd 46 d_P_shareOf_45 ?_
      refine ab_ldc2 (v := (2 : Int64)) 49 d_P_shareOf_46 w_1 ?_
      refine ab_ldiv 50 d_P_shareOf_49 (by decide) ?_
      obtain ⟨g11, hyp⟩ := ab_gd hyp
      refine ab_lst 1 24 51 d_P_shareOf_50 rfl g11 lay_L1 ?_
      refine ab_iinc 54 [(3, _), (0, _), (1, _), (2, _)] d_P_shareOf_51 (1 : Int32) (by decide) rfl rfl ?_
      refine ab_goto 2 d_P_shareOf_54 ?_
      refine ab_pick [1, 2, 3, 0] [(0, _), (1, _), (2, _), (3, _)] rfl ?_
      exact hrec2 v1 v2 (v3 + (1 : Int32)) (sL M 1 v3 ((r7 + r10) / (2 : Int64))) hyp
    · replace hyp := ab_pos z4 hyp
      refine ab_ldc2 (v := (1125899906842624 : Int64)) 20 d_P_shareOf_17 w_0 ?_
      refine ab_goto 50 d_P_shareOf_20 ?_
      obtain ⟨g12, hyp⟩ := ab_gd hyp
      refine ab_lst 1 24 51 d_P_shareOf_50 rfl g12 lay_L1 ?_
      refine ab_iinc 54 [(3, _), (0, _), (1, _), (2, _)] d_P_shareOf_51 (1 : Int32) (by decide) rfl rfl ?_
      refine ab_goto 2 d_P_shareOf_54 ?_
      refine ab_pick [1, 2, 3, 0] [(0, _), (1, _), (2, _), (3, _)] rfl ?_
      exact hrec2 v1 v2 (v3 + (1 : Int32)) (sL M 1 v3 (1125899906842624 : Int64)) hyp
theorem q_P_shareOf_L2 {l : Launch} {D : va_G} {B : Nat} {ad : Nat → Nat} {r : Int64 × Me} : ∀ (F : Nat) (v1 : Int32) (v2 : Int32) (v3 : Int32) (M : Me) , P_shareOf_L2 F v1 v2 v3 M = some r → ab_V (ab_km l D B ad y_P_shareOf rm_P_shareOf (.ok (some (.long r.1))) (lay r.2)) ad 2 [(0, .ref 1), (1, .int v1), (2, .int v2), (3, .int v3)] [] (lay M) 0 0 := by
  intro F
  induction F with
  | zero =>
    intro v1 v2 v3 M hyp
    have h2 : (none : Option (Int64 × Me)) = some r := hyp
    cases h2
  | succ F ih =>
    intro v1 v2 v3 M hyp
    exact q_P_shareOf_b2 (P_shareOf_L2 F) ih v1 v2 v3 M hyp
theorem c_P_shareOf {M : Me} {v1 : Int32} {v2 : Int32} {r : Int64 × Me} (hyp : P_shareOf M v1 v2 = some r) : ab_Met y_P_shareOf rm_P_shareOf [.ref 1, .int v1, .int v2] (lay M) (.ok (some (.long r.1))) (lay r.2) := by
  refine ab_start rfl rfl (Nat.le_of_ble_eq_true rfl) (fun l D B ad => ?_)
  show ab_V _ ad 0 [(0, .ref 1), (1, .int v1), (2, .int v2)] [] _ 0 0
  unfold P_shareOf at hyp
  refine ab_iload_n 1 d_P_shareOf_0 rfl ?_
  refine ab_istore_n 2 [(3, _), (0, _), (1, _), (2, _)] d_P_shareOf_1 rfl ?_
  refine ab_pick [1, 2, 3, 0] [(0, _), (1, _), (2, _), (3, _)] rfl ?_
  exact q_P_shareOf_L2 64 v1 v2 v1 M hyp
