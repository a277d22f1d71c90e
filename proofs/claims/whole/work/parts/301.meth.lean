/-! P_size -/
def P_size (M : Me) : Option Int32 :=
  some (gF M 0)
def rm_P_size : Room := { frames := 0, locals := 0, cells := 0, slots := 0 }
theorem c_P_size {M : Me} {r : Int32} (hyp : P_size M = some r) : ab_Met y_P_size rm_P_size [.ref 1] (lay M) (.ok (some (.int r))) (lay M) := by
  refine ab_start rfl rfl (Nat.le_of_ble_eq_true rfl) (fun l D B ad => ?_)
  show ab_V _ ad 0 [(0, .ref 1)] [] _ 0 0
  unfold P_size at hyp
  refine ab_aload_n 1 d_P_size_0 rfl ?_
  refine ab_get 4 d_P_size_1 fd_0 rfl rfl ?_
  cases hyp
  exact ab_ireturn d_P_size_4 rfl rfl rfl (Nat.le_of_ble_eq_true rfl) (Nat.le_of_ble_eq_true rfl)
/-! H_isAnimal -/
def H_isAnimal (M : Me) (v1 : Int32) : Option Int32 :=
  if v1 < (0 : Int32) then (some (0 : Int32)) else (Option.bind (P_size M) (fun r3 => if r3 ≤ v1 then (some (0 : Int32)) else (some (1 : Int32))))
def rm_H_isAnimal : Room := { frames := 1, locals := 20, cells := 0, slots := 0 }
theorem c_H_isAnimal {M : Me} {v1 : Int32} {r : Int32} (hyp : H_isAnimal M v1 = some r) : ab_Met y_H_isAnimal rm_H_isAnimal [.ref 0, .int v1] (lay M) (.ok (some (.int r))) (lay M) := by
  refine ab_start rfl rfl (Nat.le_of_ble_eq_true rfl) (fun l D B ad => ?_)
  show ab_V _ ad 0 [(0, .ref 0), (1, .int v1)] [] _ 0 0
  unfold H_isAnimal at hyp
  refine ab_iload_n 1 d_H_isAnimal_0 rfl ?_
  refine ab_if_lt 19 4 d_H_isAnimal_1 (fun z1 => ?_) (fun z1 => ?_)
  · replace hyp := ab_pos z1 hyp
    refine ab_iconst 20 d_H_isAnimal_19 (0 : Int32) (by decide) ?_
    cases hyp
    exact ab_zreturn d_H_isAnimal_20 rfl rfl rfl rfl (Nat.le_of_ble_eq_true rfl) (Nat.le_of_ble_eq_true rfl)
  · replace hyp := ab_neg z1 hyp
    refine ab_iload_n 5 d_H_isAnimal_4 rfl ?_
    refine ab_aload_n 6 d_H_isAnimal_5 rfl ?_
    refine ab_get 9 d_H_isAnimal_6 fd_1 rfl rfl ?_
    obtain ⟨r3, hc2, hyp⟩ := ab_bind hyp
    refine ab_callV (h' := lay M) 12 0 0 [.int v1] [.int r3, .int v1] d_H_isAnimal_9 ok_P_size lk_0 (c_P_size hc2) rfl rfl ?_
    refine ab_ic_ge 19 15 d_H_isAnimal_12 (fun z4 => ?_) (fun z4 => ?_)
    · replace hyp := ab_pos z4 hyp
      refine ab_iconst 20 d_H_isAnimal_19 (0 : Int32) (by decide) ?_
      cases hyp
      exact ab_zreturn d_H_isAnimal_20 rfl rfl rfl rfl (Nat.le_of_ble_eq_true rfl) (Nat.le_of_ble_eq_true rfl)
    · replace hyp := ab_neg z4 hyp
      refine ab_iconst 16 d_H_isAnimal_15 (1 : Int32) (by decide) ?_
      refine ab_goto 20 d_H_isAnimal_16 ?_
      cases hyp
      exact ab_zreturn d_H_isAnimal_20 rfl rfl rfl rfl (Nat.le_of_ble_eq_true rfl) (Nat.le_of_ble_eq_true rfl)
/-! H_requireAnimal -/
def H_requireAnimal (M : Me) (v1 : Int32) : Option (Except String Unit) :=
  Option.bind (H_isAnimal M v1) (fun r2 => if r2 = (0 : Int32) then (some (.error "java/util/NoSuchElementException")) else (some (.ok ())))
def rm_H_requireAnimal : Room := { frames := 6, locals := 82, cells := 1, slots := 6 }
theorem c_H_requireAnimal {M : Me} {v1 : Int32} {r : Except String Unit} (hyp : H_requireAnimal M v1 = some r) : ab_Met y_H_requireAnimal rm_H_requireAnimal [.ref 0, .int v1] (lay M) (Except.map (fun _ => none) r) (lay M) := by
  refine ab_start rfl rfl (Nat.le_of_ble_eq_true rfl) (fun l D B ad => ?_)
  show ab_V _ ad 0 [(0, .ref 0), (1, .int v1)] [] _ 0 0
  unfold H_requireAnimal at hyp
  refine ab_aload_n 1 d_H_requireAnimal_0 rfl ?_
  refine ab_iload_n 2 d_H_requireAnimal_1 rfl ?_
  obtain ⟨r2, hc1, hyp⟩ := ab_bind hyp
  refine ab_callV (h' := lay M) 5 0 0 [] [.int r2] d_H_requireAnimal_2 ok_H_isAnimal lk_1 (c_H_isAnimal hc1) rfl rfl ?_
  refine ab_if_ne 18 8 d_H_requireAnimal_5 (fun z3 => ?_) (fun z3 => ?_)
  · replace hyp := ab_neg z3 hyp
    cases hyp
    exact ab_return d_H_requireAnimal_18 rfl rfl rfl (Nat.le_of_ble_eq_true rfl) (Nat.le_of_ble_eq_true rfl)
  · replace hyp := ab_pos z3 hyp
    cases hyp
    exact ab_throw te_0 rfl d_H_requireAnimal_8 d_H_requireAnimal_11 d_H_requireAnimal_12 d_H_requireAnimal_14 d_H_requireAnimal_17 (Nat.le_of_ble_eq_true rfl) (Nat.le_of_ble_eq_true rfl) rfl rfl (Nat.le_of_ble_eq_true rfl) (Nat.le_of_ble_eq_true rfl)
/-! H_requireAnimalOrNone -/
def H_requireAnimalOrNone (M : Me) (v1 : Int32) : Option (Except String Unit) :=
  if v1 = (-1 : Int32) then (some (.ok ())) else (ab_thrP (H_requireAnimal M v1) (fun r3 => some (.ok ())) (fun E4 => some (.error E4)))
def rm_H_requireAnimalOrNone : Room := { frames := 7, locals := 103, cells := 1, slots := 6 }
theorem c_H_requireAnimalOrNone {M : Me} {v1 : Int32} {r : Except String Unit} (hyp : H_requireAnimalOrNone M v1 = some r) : ab_Met y_H_requireAnimalOrNone rm_H_requireAnimalOrNone [.ref 0, .int v1] (lay M) (Except.map (fun _ => none) r) (lay M) := by
  refine ab_start rfl rfl (Nat.le_of_ble_eq_true rfl) (fun l D B ad => ?_)
  show ab_V _ ad 0 [(0, .ref 0), (1, .int v1)] [] _ 0 0
  unfold H_requireAnimalOrNone at hyp
  refine ab_iload_n 1 d_H_requireAnimalOrNone_0 rfl ?_
  refine ab_iconst 2 d_H_requireAnimalOrNone_1 (-1 : Int32) (by decide) ?_
  refine ab_ic_eq 10 5 d_H_requireAnimalOrNone_2 (fun z1 => ?_) (fun z1 => ?_)
  · replace hyp := ab_pos z1 hyp
    cases hyp
    exact ab_return d_H_requireAnimalOrNone_10 rfl rfl rfl (Nat.le_of_ble_eq_true rfl) (Nat.le_of_ble_eq_true rfl)
  · replace hyp := ab_neg z1 hyp
    refine ab_aload_n 6 d_H_requireAnimalOrNone_5 rfl ?_
    refine ab_iload_n 7 d_H_requireAnimalOrNone_6 rfl ?_
    rcases ab_thrP_cases hyp with ⟨r3, hc2, hyp⟩ | ⟨E4, hc2, hyp⟩
    · refine ab_callV (h' := lay M) 10 1 6 [] [] d_H_requireAnimalOrNone_7 ok_H_requireAnimal lk_2 (c_H_requireAnimal hc2) rfl rfl ?_
      cases hyp
      exact ab_return d_H_requireAnimalOrNone_10 rfl rfl rfl (Nat.le_of_ble_eq_true rfl) (Nat.le_of_ble_eq_true rfl)
    · cases hyp
      refine ab_callVX (h' := lay M) 1 6 [] d_H_requireAnimalOrNone_7 ok_H_requireAnimal lk_2 (c_H_requireAnimal hc2) rfl rfl ?_
      exact ab_out rfl rfl rfl (Nat.le_of_ble_eq_true rfl) (Nat.le_of_ble_eq_true rfl)
/-! H_isFitParent -/
def H_isFitParent (M : Me) (v1 : Int32) (v2 : Int32) (v3 : Int32) : Option Int32 :=
  if v1 = (-1 : Int32) then (some (1 : Int32)) else (gd (inb v1 24) (if (gI M 5 v1) = v2 then (gd (inb v1 24) (if v3 ≤ (gI M 6 v1) then (some (0 : Int32)) else (some (1 : Int32)))) else (some (0 : Int32))))
def rm_H_isFitParent : Room := { frames := 0, locals := 0, cells := 0, slots := 0 }
theorem c_H_isFitParent {M : Me} {v1 : Int32} {v2 : Int32} {v3 : Int32} {r : Int32} (hyp : H_isFitParent M v1 v2 v3 = some r) : ab_Met y_H_isFitParent rm_H_isFitParent [.ref 0, .int v1, .int v2, .int v3] (lay M) (.ok (some (.int r))) (lay M) := by
  refine ab_start rfl rfl (Nat.le_of_ble_eq_true rfl) (fun l D B ad => ?_)
  show ab_V _ ad 0 [(0, .ref 0), (1, .int v1), (2, .int v2), (3, .int v3)] [] _ 0 0
  unfold H_isFitParent at hyp
  refine ab_iload_n 1 d_H_isFitParent_0 rfl ?_
  refine ab_iconst 2 d_H_isFitParent_1 (-1 : Int32) (by decide) ?_
  refine ab_ic_eq 25 5 d_H_isFitParent_2 (fun z1 => ?_) (fun z1 => ?_)
  · replace hyp := ab_pos z1 hyp
    refine ab_iconst 26 d_H_isFitParent_25 (1 : Int32) (by decide) ?_
    refine ab_goto 30 d_H_isFitParent_26 ?_
    cases hyp
    exact ab_zreturn d_H_isFitParent_30 rfl rfl rfl rfl (Nat.le_of_ble_eq_true rfl) (Nat.le_of_ble_eq_true rfl)
  · replace hyp := ab_neg z1 hyp
    refine ab_aload_n 6 d_H_isFitParent_5 rfl ?_
    refine ab_get 9 d_H_isFitParent_6 fd_2 rfl rfl ?_
    refine ab_iload_n 10 d_H_isFitParent_9 rfl ?_
    obtain ⟨g2, hyp⟩ := ab_gd hyp
    refine ab_ild 5 24 11 d_H_isFitParent_10 rfl g2 ?_
    refine ab_iload_n 12 d_H_isFitParent_11 rfl ?_
    refine ab_ic_ne 29 15 d_H_isFitParent_12 (fun z3 => ?_) (fun z3 => ?_)
    · replace hyp := ab_neg z3 hyp
      refine ab_iconst 30 d_H_isFitParent_29 (0 : Int32) (by decide) ?_
      cases hyp
      exact ab_zreturn d_H_isFitParent_30 rfl rfl rfl rfl (Nat.le_of_ble_eq_true rfl) (Nat.le_of_ble_eq_true rfl)
    · replace hyp := ab_pos z3 hyp
      refine ab_aload_n 16 d_H_isFitParent_15 rfl ?_
      refine ab_get 19 d_H_isFitParent_16 fd_3 rfl rfl ?_
      refine ab_iload_n 20 d_H_isFitParent_19 rfl ?_
      obtain ⟨g4, hyp⟩ := ab_gd hyp
      refine ab_ild 6 24 21 d_H_isFitParent_20 rfl g4 ?_
      refine ab_iload_n 22 d_H_isFitParent_21 rfl ?_
      refine ab_ic_ge 29 25 d_H_isFitParent_22 (fun z5 => ?_) (fun z5 => ?_)
      · replace hyp := ab_pos z5 hyp
        refine ab_iconst 30 d_H_isFitParent_29 (0 : Int32) (by decide) ?_
        cases hyp
        exact ab_zreturn d_H_isFitParent_30 rfl rfl rfl rfl (Nat.le_of_ble_eq_true rfl) (Nat.le_of_ble_eq_true rfl)
      · replace hyp := ab_neg z5 hyp
        refine ab_iconst 26 d_H_isFitParent_25 (1 : Int32) (by decide) ?_
        refine ab_goto 30 d_H_isFitParent_26 ?_
        cases hyp
        exact ab_zreturn d_H_isFitParent_30 rfl rfl rfl rfl (Nat.le_of_ble_eq_true rfl) (Nat.le_of_ble_eq_true rfl)
/-! H_requireFitParents -/
def H_requireFitParents (M : Me) (v1 : Int32) (v2 : Int32) (v3 : Int32) : Option (Except String Unit) :=
  Option.bind (H_isFitParent M v1 (0 : Int32) v3) (fun r2 => if r2 = (0 : Int32) then (some (.error "java/lang/UnsupportedOperationException")) else (Option.bind (H_isFitParent M v2 (1 : Int32) v3) (fun r5 => if r5 = (0 : Int32) then (some (.error "java/lang/UnsupportedOperationException")) else (some (.ok ())))))
def rm_H_requireFitParents : Room := { frames := 6, locals := 82, cells := 1, slots := 6 }
theorem c_H_requireFitParents {M : Me} {v1 : Int32} {v2 : Int32} {v3 : Int32} {r : Except String Unit} (hyp : H_requireFitParents M v1 v2 v3 = some r) : ab_Met y_H_requireFitParents rm_H_requireFitParents [.ref 0, .int v1, .int v2, .int v3] (lay M) (Except.map (fun _ => none) r) (lay M) := by
  refine ab_start rfl rfl (Nat.le_of_ble_eq_true rfl) (fun l D B ad => ?_)
  show ab_V _ ad 0 [(0, .ref 0), (1, .int v1), (2, .int v2), (3, .int v3)] [] _ 0 0
  unfold H_requireFitParents at hyp
  refine ab_aload_n 1 d_H_requireFitParents_0 rfl ?_
  refine ab_iload_n 2 d_H_requireFitParents_1 rfl ?_
  refine ab_iconst 3 d_H_requireFitParents_2 (0 : Int32) (by decide) ?_
  refine ab_iload_n 4 d_H_requireFitParents_3 rfl ?_
  obtain ⟨r2, hc1, hyp⟩ := ab_bind hyp
  refine ab_callV (h' := lay M) 7 0 0 [] [.int r2] d_H_requireFitParents_4 ok_H_isFitParent lk_3 (c_H_isFitParent hc1) rfl rfl ?_
  refine ab_if_eq 20 10 d_H_requireFitParents_7 (fun z3 => ?_) (fun z3 => ?_)
  · replace hyp := ab_pos z3 hyp
    cases hyp
    exact ab_throw te_1 rfl d_H_requireFitParents_20 d_H_requireFitParents_23 d_H_requireFitParents_24 d_H_requireFitParents_26 d_H_requireFitParents_29 (Nat.le_of_ble_eq_true rfl) (Nat.le_of_ble_eq_true rfl) rfl rfl (Nat.le_of_ble_eq_true rfl) (Nat.le_of_ble_eq_true rfl)
  · replace hyp := ab_neg z3 hyp
    refine ab_aload_n 11 d_H_requireFitParents_10 rfl ?_
    refine ab_iload_n 12 d_H_requireFitParents_11 rfl ?_
    refine ab_iconst 13 d_H_requireFitParents_12 (1 : Int32) (by decide) ?_
    refine ab_iload_n 14 d_H_requireFitParents_13 rfl ?_
    obtain ⟨r5, hc4, hyp⟩ := ab_bind hyp
    refine ab_callV (h' := lay M) 17 0 0 [] [.int r5] d_H_requireFitParents_14 ok_H_isFitParent lk_3 (c_H_isFitParent hc4) rfl rfl ?_
    refine ab_if_ne 30 20 d_H_requireFitParents_17 (fun z6 => ?_) (fun z6 => ?_)
    · replace hyp := ab_neg z6 hyp
      cases hyp
      exact ab_return d_H_requireFitParents_30 rfl rfl rfl (Nat.le_of_ble_eq_true rfl) (Nat.le_of_ble_eq_true rfl)
    · replace hyp := ab_pos z6 hyp
      cases hyp
      exact ab_throw te_1 rfl d_H_requireFitParents_20 d_H_requireFitParents_23 d_H_requireFitParents_24 d_H_requireFitParents_26 d_H_requireFitParents_29 (Nat.le_of_ble_eq_true rfl) (Nat.le_of_ble_eq_true rfl) rfl rfl (Nat.le_of_ble_eq_true rfl) (Nat.le_of_ble_eq_true rfl)
/-! P_isFounder -/
def P_isFounder (M : Me) (v1 : Int32) : Option Int32 :=
  gd (inb v1 24) (if (gI M 0 v1) = (-1 : Int32) then (gd (inb v1 24) (if (gI M 1 v1) = (-1 : Int32) then (some (1 : Int32)) else (some (0 : Int32)))) else (some (0 : Int32)))
def rm_P_isFounder : Room := { frames := 0, locals := 0, cells := 0, slots := 0 }
theorem c_P_isFounder {M : Me} {v1 : Int32} {r : Int32} (hyp : P_isFounder M v1 = some r) : ab_Met y_P_isFounder rm_P_isFounder [.ref 1, .int v1] (lay M) (.ok (some (.int r))) (lay M) := by
  refine ab_start rfl rfl (Nat.le_of_ble_eq_true rfl) (fun l D B ad => ?_)
  show ab_V _ ad 0 [(0, .ref 1), (1, .int v1)] [] _ 0 0
  unfold P_isFounder at hyp
  refine ab_aload_n 1 d_P_isFounder_0 rfl ?_
  refine ab_get 4 d_P_isFounder_1 fd_4 rfl rfl ?_
  refine ab_iload_n 5 d_P_isFounder_4 rfl ?_
  obtain ⟨g1, hyp⟩ := ab_gd hyp
  refine ab_ild 0 24 6 d_P_isFounder_5 rfl g1 ?_
  refine ab_iconst 7 d_P_isFounder_6 (-1 : Int32) (by decide) ?_
  refine ab_ic_ne 24 10 d_P_isFounder_7 (fun z2 => ?_) (fun z2 => ?_)
  · replace hyp := ab_neg z2 hyp
    refine ab_iconst 25 d_P_isFounder_24 (0 : Int32) (by decide) ?_
    cases hyp
    exact ab_zreturn d_P_isFounder_25 rfl rfl rfl rfl (Nat.le_of_ble_eq_true rfl) (Nat.le_of_ble_eq_true rfl)
  · replace hyp := ab_pos z2 hyp
    refine ab_aload_n 11 d_P_isFounder_10 rfl ?_
    refine ab_get 14 d_P_isFounder_11 fd_5 rfl rfl ?_
    refine ab_iload_n 15 d_P_isFounder_14 rfl ?_
    obtain ⟨g3, hyp⟩ := ab_gd hyp
    refine ab_ild 1 24 16 d_P_isFounder_15 rfl g3 ?_
    refine ab_iconst 17 d_P_isFounder_16 (-1 : Int32) (by decide) ?_
    refine ab_ic_ne 24 20 d_P_isFounder_17 (fun z4 => ?_) (fun z4 => ?_)
    · replace hyp := ab_neg z4 hyp
      refine ab_iconst 25 d_P_isFounder_24 (0 : Int32) (by decide) ?_
      cases hyp
      exact ab_zreturn d_P_isFounder_25 rfl rfl rfl rfl (Nat.le_of_ble_eq_true rfl) (Nat.le_of_ble_eq_true rfl)
    · replace hyp := ab_pos z4 hyp
      refine ab_iconst 21 d_P_isFounder_20 (1 : Int32) (by decide) ?_
      refine ab_goto 25 d_P_isFounder_21 ?_
      cases hyp
      exact ab_zreturn d_P_isFounder_25 rfl rfl rfl rfl (Nat.le_of_ble_eq_true rfl) (Nat.le_of_ble_eq_true rfl)
/-! P_depthOrZero -/
def P_depthOrZero (M : Me) (v1 : Int32) : Option Int32 :=
  if v1 = (-1 : Int32) then (some (0 : Int32)) else (gd (inb v1 24) (some (gI M 2 v1)))
def rm_P_depthOrZero : Room := { frames := 0, locals := 0, cells := 0, slots := 0 }
theorem c_P_depthOrZero {M : Me} {v1 : Int32} {r : Int32} (hyp : P_depthOrZero M v1 = some r) : ab_Met y_P_depthOrZero rm_P_depthOrZero [.ref 1, .int v1] (lay M) (.ok (some (.int r))) (lay M) := by
  refine ab_start rfl rfl (Nat.le_of_ble_eq_true rfl) (fun l D B ad => ?_)
  show ab_V _ ad 0 [(0, .ref 1), (1, .int v1)] [] _ 0 0
  unfold P_depthOrZero at hyp
  refine ab_iload_n 1 d_P_depthOrZero_0 rfl ?_
  refine ab_iconst 2 d_P_depthOrZero_1 (-1 : Int32) (by decide) ?_
  refine ab_ic_ne 9 5 d_P_depthOrZero_2 (fun z1 => ?_) (fun z1 => ?_)
  · replace hyp := ab_neg z1 hyp
    refine ab_aload_n 10 d_P_depthOrZero_9 rfl ?_
    refine ab_get 13 d_P_depthOrZero_10 fd_6 rfl rfl ?_
    refine ab_iload_n 14 d_P_depthOrZero_13 rfl ?_
    obtain ⟨g2, hyp⟩ := ab_gd hyp
    refine ab_ild 2 24 15 d_P_depthOrZero_14 rfl g2 ?_
    cases hyp
    exact ab_ireturn d_P_depthOrZero_15 rfl rfl rfl (Nat.le_of_ble_eq_true rfl) (Nat.le_of_ble_eq_true rfl)
  · replace hyp := ab_pos z1 hyp
    refine ab_iconst 6 d_P_depthOrZero_5 (0 : Int32) (by decide) ?_
    refine ab_goto 15 d_P_depthOrZero_6 ?_
    cases hyp
    exact ab_ireturn d_P_depthOrZero_15 rfl rfl rfl (Nat.le_of_ble_eq_true rfl) (Nat.le_of_ble_eq_true rfl)
/-! P_withForebears -/
def P_withForebears (M : Me) (v1 : Int32) : Option Int32 :=
  if v1 = (-1 : Int32) then (some (0 : Int32)) else (gd (inb v1 24) (some ((gI M 3 v1) ||| ((1 : Int32) <<< (v1 &&& 31)))))
def rm_P_withForebears : Room := { frames := 0, locals := 0, cells := 0, slots := 0 }
theorem c_P_withForebears {M : Me} {v1 : Int32} {r : Int32} (hyp : P_withForebears M v1 = some r) : ab_Met y_P_withForebears rm_P_withForebears [.ref 1, .int v1] (lay M) (.ok (some (.int r))) (lay M) := by
  refine ab_start rfl rfl (Nat.le_of_ble_eq_true rfl) (fun l D B ad => ?_)
  show ab_V _ ad 0 [(0, .ref 1), (1, .int v1)] [] _ 0 0
  unfold P_withForebears at hyp
  refine ab_iload_n 1 d_P_withForebears_0 rfl ?_
  refine ab_iconst 2 d_P_withForebears_1 (-1 : Int32) (by decide) ?_
  refine ab_ic_ne 9 5 d_P_withForebears_2 (fun z1 => ?_) (fun z1 => ?_)
  · replace hyp := ab_neg z1 hyp
    refine ab_aload_n 10 d_P_withForebears_9 rfl ?_
    refine ab_get 13 d_P_withForebears_10 fd_7 rfl rfl ?_
    refine ab_iload_n 14 d_P_withForebears_13 rfl ?_
    obtain ⟨g2, hyp⟩ := ab_gd hyp
    refine ab_ild 3 24 15 d_P_withForebears_14 rfl g2 ?_
    refine ab_iconst 16 d_P_withForebears_15 (1 : Int32) (by decide) ?_
    refine ab_iload_n 17 d_P_withForebears_16 rfl ?_
    refine ab_ishl 18 d_P_withForebears_17 ?_
    refine ab_ior 19 d_P_withForebears_18 ?_
    cases hyp
    exact ab_ireturn d_P_withForebears_19 rfl rfl rfl (Nat.le_of_ble_eq_true rfl) (Nat.le_of_ble_eq_true rfl)
  · replace hyp := ab_pos z1 hyp
    refine ab_iconst 6 d_P_withForebears_5 (0 : Int32) (by decide) ?_
    refine ab_goto 19 d_P_withForebears_6 ?_
    cases hyp
    exact ab_ireturn d_P_withForebears_19 rfl rfl rfl (Nat.le_of_ble_eq_true rfl) (Nat.le_of_ble_eq_true rfl)
/-! P_kinOf -/
def P_kinOf (M : Me) (v1 : Int32) (v2 : Int32) : Option Int64 :=
  if v1 = (-1 : Int32) then (some (0 : Int64)) else (if v2 = (-1 : Int32) then (some (0 : Int64)) else (gd (inb v1 24) (gd (inb v2 24) (some (gR M v1 v2)))))
def rm_P_kinOf : Room := { frames := 0, locals := 0, cells := 0, slots := 0 }
theorem c_P_kinOf {M : Me} {v1 : Int32} {v2 : Int32} {r : Int64} (hyp : P_kinOf M v1 v2 = some r) : ab_Met y_P_kinOf rm_P_kinOf [.ref 1, .int v1, .int v2] (lay M) (.ok (some (.long r))) (lay M) := by
  refine ab_start rfl rfl (Nat.le_of_ble_eq_true rfl) (fun l D B ad => ?_)
  show ab_V _ ad 0 [(0, .ref 1), (1, .int v1), (2, .int v2)] [] _ 0 0
  unfold P_kinOf at hyp
  refine ab_iload_n 1 d_P_kinOf_0 rfl ?_
  refine ab_iconst 2 d_P_kinOf_1 (-1 : Int32) (by decide) ?_
  refine ab_ic_eq 10 5 d_P_kinOf_2 (fun z1 => ?_) (fun z1 => ?_)
  · replace hyp := ab_pos z1 hyp
    refine ab_lconst 11 d_P_kinOf_10 (0 : Int64) (by decide) ?_
    refine ab_goto 22 d_P_kinOf_11 ?_
    cases hyp
    exact ab_lreturn d_P_kinOf_22 rfl rfl rfl (Nat.le_of_ble_eq_true rfl) (Nat.le_of_ble_eq_true rfl)
  · replace hyp := ab_neg z1 hyp
    refine ab_iload_n 6 d_P_kinOf_5 rfl ?_
    refine ab_iconst 7 d_P_kinOf_6 (-1 : Int32) (by decide) ?_
    refine ab_ic_ne 14 10 d_P_kinOf_7 (fun z2 => ?_) (fun z2 => ?_)
    · replace hyp := ab_neg z2 hyp
      refine ab_aload_n 15 d_P_kinOf_14 rfl ?_
      refine ab_get 18 d_P_kinOf_15 fd_8 rfl rfl ?_
      refine ab_iload_n 19 d_P_kinOf_18 rfl ?_
      obtain ⟨g3, hyp⟩ := ab_gd hyp
      refine ab_row 20 d_P_kinOf_19 g3 ?_
      refine ab_iload_n 21 d_P_kinOf_20 rfl ?_
      obtain ⟨g4, hyp⟩ := ab_gd hyp
      refine ab_rld 22 d_P_kinOf_21 g3 g4 ?_
      cases hyp
      exact ab_lreturn d_P_kinOf_22 rfl rfl rfl (Nat.le_of_ble_eq_true rfl) (Nat.le_of_ble_eq_true rfl)
    · replace hyp := ab_pos z2 hyp
      refine ab_lconst 11 d_P_kinOf_10 (0 : Int64) (by decide) ?_
      refine ab_goto 22 d_P_kinOf_11 ?_
      cases hyp
      exact ab_lreturn d_P_kinOf_22 rfl rfl rfl (Nat.le_of_ble_eq_true rfl) (Nat.le_of_ble_eq_true rfl)
/-! P_renew -/
def P_renew_b67 (rec67 : Int32 → Int32 → Int32 → Int32 → Me → Option Me) (v1 : Int32) (v2 : Int32) (v3 : Int32) (v4 : Int32) (M : Me) : Option Me :=
  if v1 ≤ v4 then (Option.bind (P_kinOf M v2 v3) (fun r3 => gd (inb v1 24) (gd (inb v1 24) (gd (inb v1 24) (gd (inb v1 24) (some (sR (sL M 0 v1 r3) v1 v1 (((1125899906842624 : Int64) + (gL (sL M 0 v1 r3) 0 v1)) / (2 : Int64))))))))) else (Option.bind (P_kinOf M v2 v4) (fun r9 => Option.bind (P_kinOf M v3 v4) (fun r11 => gd (inb v1 24) (gd (inb v4 24) (gd (inb v4 24) (gd (inb v1 24) (rec67 v1 v2 v3 (v4 + (1 : Int32)) (sR (sR M v1 v4 ((r9 + r11) / (2 : Int64))) v4 v1 ((r9 + r11) / (2 : Int64))))))))))
def P_renew_L67 : Nat → Int32 → Int32 → Int32 → Int32 → Me → Option Me
  | 0, _, _, _, _, _ => none
  | F + 1, v1, v2, v3, v4, M => P_renew_b67 (P_renew_L67 F) v1 v2 v3 v4 M
def P_renew_c46 (v1 : Int32) (v2 : Int32) (v3 : Int32) (s0 : Int32) (s1 : Int32) (M : Me) : Option Me :=
  gd (inb s1 24) (Option.bind (P_withForebears (sI M 2 s1 s0) v2) (fun r3 => Option.bind (P_withForebears (sI M 2 s1 s0) v3) (fun r5 => gd (inb v1 24) (P_renew_L67 64 v1 v2 v3 (0 : Int32) (sI (sI M 2 s1 s0) 3 v1 (r3 ||| r5))))))
def P_renew (M : Me) (v1 : Int32) : Option Me :=
  gd (inb v1 24) (gd (inb v1 24) (Option.bind (P_isFounder M v1) (fun r4 => if r4 = (0 : Int32) then (Option.bind (P_depthOrZero M (gI M 0 v1)) (fun r7 => Option.bind (P_depthOrZero M (gI M 1 v1)) (fun r9 => P_renew_c46 v1 (gI M 0 v1) (gI M 1 v1) ((1 : Int32) + (if r7 < r9 then r9 else r7)) v1 M))) else (P_renew_c46 v1 (gI M 0 v1) (gI M 1 v1) (0 : Int32) v1 M))))
def rm_P_renew : Room := { frames := 1, locals := 22, cells := 0, slots := 0 }
theorem q_P_renew_b67 {l : Launch} {D : va_G} {B : Nat} {ad : Nat → Nat} {r : Me} (rec67 : Int32 → Int32 → Int32 → Int32 → Me → Option Me) (hrec67 : ∀ (v1 : Int32) (v2 : Int32) (v3 : Int32) (v4 : Int32) (M : Me) , rec67 v1 v2 v3 v4 M = some r → ab_V (ab_km l D B ad y_P_renew rm_P_renew (.ok none) (lay r)) ad 67 [(0, .ref 1), (1, .int v1), (2, .int v2), (3, .int v3), (4, .int v4)] [] (lay M) 0 0) (v1 : Int32) (v2 : Int32) (v3 : Int32) (v4 : Int32) (M : Me) (hyp : P_renew_b67 rec67 v1 v2 v3 v4 M = some r) : ab_V (ab_km l D B ad y_P_renew rm_P_renew (.ok none) (lay r)) ad 67 [(0, .ref 1), (1, .int v1), (2, .int v2), (3, .int v3), (4, .int v4)] [] (lay M) 0 0 := by
  unfold P_renew_b67 at hyp
  refine ab_iload 69 d_P_renew_67 rfl ?_
  refine ab_iload_n 70 d_P_renew_69 rfl ?_
  refine ab_ic_ge 122 73 d_P_renew_70 (fun z1 => ?_) (fun z1 => ?_)
  · replace hyp := ab_pos z1 hyp
    refine ab_aload_n 123 d_P_renew_122 rfl ?_
    refine ab_get 126 d_P_renew_123 fd_9 rfl rfl ?_
    refine ab_iload_n 127 d_P_renew_126 rfl ?_
    refine ab_aload_n 128 d_P_renew_127 rfl ?_
    refine ab_iload_n 129 d_P_renew_128 rfl ?_
    refine ab_iload_n 130 d_P_renew_129 rfl ?_
    obtain ⟨r3, hc2, hyp⟩ := ab_bind hyp
    refine ab_callV (h' := lay M) 133 0 0 [.int v1, .ref 29] [.long r3, .int v1, .ref 29] d_P_renew_130 ok_P_kinOf lk_8 (c_P_kinOf hc2) rfl rfl ?_
    obtain ⟨g4, hyp⟩ := ab_gd hyp
    refine ab_lst 0 24 134 d_P_renew_133 rfl g4 lay_L0 ?_
    refine ab_aload_n 135 d_P_renew_134 rfl ?_
    refine ab_get 138 d_P_renew_135 fd_8 rfl rfl ?_
    refine ab_iload_n 139 d_P_renew_138 rfl ?_
    obtain ⟨g5, hyp⟩ := ab_gd hyp
    refine ab_row 140 d_P_renew_139 g5 ?_
    refine ab_iload_n 141 d_P_renew_140 rfl ?_
    refine ab_ldc2 (v := (1125899906842624 : Int64)) 144 d_P_renew_141 w_0 ?_
    refine ab_aload_n 145 d_P_renew_144 rfl ?_
    refine ab_get 148 d_P_renew_145 fd_9 rfl rfl ?_
    refine ab_iload_n 149 d_P_renew_148 rfl ?_
    obtain ⟨g6, hyp⟩ := ab_gd hyp
    refine ab_lld 0 24 150 d_P_renew_149 rfl g6 ?_
    refine ab_ladd 151 d_P_renew_150 ?_
    refine ab_ldc2 (v := (2 : Int64)) 154 d_P_renew_151 w_1 ?_
    refine ab_ldiv 155 d_P_renew_154 (by decide) ?_
    obtain ⟨g7, hyp⟩ := ab_gd hyp
    refine ab_rst 156 d_P_renew_155 g5 g7 ?_
    cases hyp
    exact ab_return d_P_renew_156 rfl rfl rfl (Nat.le_of_ble_eq_true rfl) (Nat.le_of_ble_eq_true rfl)
  · replace hyp := ab_neg z1 hyp
    refine ab_aload_n 74 d_P_renew_73 rfl ?_
    refine ab_iload_n 75 d_P_renew_74 rfl ?_
    refine ab_iload 77 d_P_renew_75 rfl ?_
    obtain ⟨r9, hc8, hyp⟩ := ab_bind hyp
    refine ab_callV (h' := lay M) 80 0 0 [] [.long r9] d_P_renew_77 ok_P_kinOf lk_8 (c_P_kinOf hc8) rfl rfl ?_
    refine ab_aload_n 81 d_P_renew_80 rfl ?_
    refine ab_iload_n 82 d_P_renew_81 rfl ?_
    refine ab_iload 84 d_P_renew_82 rfl ?_
    obtain ⟨r11, hc10, hyp⟩ := ab_bind hyp
    refine ab_callV (h' := lay M) 87 0 0 [.long r9] [.long r11, .long r9] d_P_renew_84 ok_P_kinOf lk_8 (c_P_kinOf hc10) rfl rfl ?_
    refine ab_ladd 88 d_P_renew_87 ?_
    refine ab_ldc2 (v := (2 : Int64)) 91 d_P_renew_88 w_1 ?_
    refine ab_ldiv 92 d_P_renew_91 (by decide) ?_
    refine ab_lstore 94 [(5, _), (0, _), (1, _), (2, _), (3, _), (4, _)] d_P_renew_92 rfl ?_
    refine ab_aload_n 95 d_P_renew_94 rfl ?_
    refine ab_get 98 d_P_renew_95 fd_8 rfl rfl ?_
    refine ab_iload_n 99 d_P_renew_98 rfl ?_
    obtain ⟨g12, hyp⟩ := ab_gd hyp
    refine ab_row 100 d_P_renew_99 g12 ?_
    refine ab_iload 102 d_P_renew_100 rfl ?_
    refine ab_lload 104 d_P_renew_102 rfl ?_
    obtain ⟨g13, hyp⟩ := ab_gd hyp
    refine ab_rst 105 d_P_renew_104 g12 g13 ?_
    refine ab_aload_n 106 d_P_renew_105 rfl ?_
    refine ab_get 109 d_P_renew_106 fd_8 rfl rfl ?_
    refine ab_iload 111 d_P_renew_109 rfl ?_
    obtain ⟨g14, hyp⟩ := ab_gd hyp
    refine ab_row 112 d_P_renew_111 g14 ?_
    refine ab_iload_n 113 d_P_renew_112 rfl ?_
    refine ab_lload 115 d_P_renew_113 rfl ?_
    obtain ⟨g15, hyp⟩ := ab_gd hyp
    refine ab_rst 116 d_P_renew_115 g14 g15 ?_
    refine ab_iinc 119 [(4, _), (5, _), (0, _), (1, _), (2, _), (3, _)] d_P_renew_116 (1 : Int32) (by decide) rfl rfl ?_
    refine ab_goto 67 d_P_renew_119 ?_
    refine ab_pick [2, 3, 4, 5, 0] [(0, _), (1, _), (2, _), (3, _), (4, _)] rfl ?_
    exact hrec67 v1 v2 v3 (v4 + (1 : Int32)) (sR (sR M v1 v4 ((r9 + r11) / (2 : Int64))) v4 v1 ((r9 + r11) / (2 : Int64))) hyp
theorem q_P_renew_L67 {l : Launch} {D : va_G} {B : Nat} {ad : Nat → Nat} {r : Me} : ∀ (F : Nat) (v1 : Int32) (v2 : Int32) (v3 : Int32) (v4 : Int32) (M : Me) , P_renew_L67 F v1 v2 v3 v4 M = some r → ab_V (ab_km l D B ad y_P_renew rm_P_renew (.ok none) (lay r)) ad 67 [(0, .ref 1), (1, .int v1), (2, .int v2), (3, .int v3), (4, .int v4)] [] (lay M) 0 0 := by
  intro F
  induction F with
  | zero =>
    intro v1 v2 v3 v4 M hyp
    have h2 : (none : Option Me) = some r := hyp
    cases h2
  | succ F ih =>
    intro v1 v2 v3 v4 M hyp
    exact q_P_renew_b67 (P_renew_L67 F) ih v1 v2 v3 v4 M hyp
theorem q_P_renew_c46 {l : Launch} {D : va_G} {B : Nat} {ad : Nat → Nat} {r : Me} (v1 : Int32) (v2 : Int32) (v3 : Int32) (s0 : Int32) (s1 : Int32) (M : Me) (hyp : P_renew_c46 v1 v2 v3 s0 s1 M = some r) : ab_V (ab_km l D B ad y_P_renew rm_P_renew (.ok none) (lay r)) ad 46 [(0, .ref 1), (1, .int v1), (2, .int v2), (3, .int v3)] [.int s0, .int s1, .ref 7] (lay M) 0 0 := by
  unfold P_renew_c46 at hyp
  obtain ⟨g1, hyp⟩ := ab_gd hyp
  refine ab_ist 2 24 47 d_P_renew_46 rfl g1 lay_I2 ?_
  refine ab_aload_n 48 d_P_renew_47 rfl ?_
  refine ab_get 51 d_P_renew_48 fd_7 rfl rfl ?_
  refine ab_iload_n 52 d_P_renew_51 rfl ?_
  refine ab_aload_n 53 d_P_renew_52 rfl ?_
  refine ab_iload_n 54 d_P_renew_53 rfl ?_
  obtain ⟨r3, hc2, hyp⟩ := ab_bind hyp
  refine ab_callV (h' := lay (sI M 2 s1 s0)) 57 0 0 [.int v1, .ref 8] [.int r3, .int v1, .ref 8] d_P_renew_54 ok_P_withForebears lk_7 (c_P_withForebears hc2) rfl rfl ?_
  refine ab_aload_n 58 d_P_renew_57 rfl ?_
  refine ab_iload_n 59 d_P_renew_58 rfl ?_
  obtain ⟨r5, hc4, hyp⟩ := ab_bind hyp
  refine ab_callV (h' := lay (sI M 2 s1 s0)) 62 0 0 [.int r3, .int v1, .ref 8] [.int r5, .int r3, .int v1, .ref 8] d_P_renew_59 ok_P_withForebears lk_7 (c_P_withForebears hc4) rfl rfl ?_
  refine ab_ior 63 d_P_renew_62 ?_
  obtain ⟨g6, hyp⟩ := ab_gd hyp
  refine ab_ist 3 24 64 d_P_renew_63 rfl g6 lay_I3 ?_
  refine ab_iconst 65 d_P_renew_64 (0 : Int32) (by decide) ?_
  refine ab_istore 67 [(4, _), (0, _), (1, _), (2, _), (3, _)] d_P_renew_65 rfl ?_
  refine ab_pick [1, 2, 3, 4, 0] [(0, _), (1, _), (2, _), (3, _), (4, _)] rfl ?_
  exact q_P_renew_L67 64 v1 v2 v3 (0 : Int32) (sI (sI M 2 s1 s0) 3 v1 (r3 ||| r5)) hyp
theorem c_P_renew {M : Me} {v1 : Int32} {r : Me} (hyp : P_renew M v1 = some r) : ab_Met y_P_renew rm_P_renew [.ref 1, .int v1] (lay M) (.ok none) (lay r) := by
  refine ab_start rfl rfl (Nat.le_of_ble_eq_true rfl) (fun l D B ad => ?_)
  show ab_V _ ad 0 [(0, .ref 1), (1, .int v1)] [] _ 0 0
  unfold P_renew at hyp
  refine ab_aload_n 1 d_P_renew_0 rfl ?_
  refine ab_get 4 d_P_renew_1 fd_4 rfl rfl ?_
  refine ab_iload_n 5 d_P_renew_4 rfl ?_
  obtain ⟨g1, hyp⟩ := ab_gd hyp
  refine ab_ild 0 24 6 d_P_renew_5 rfl g1 ?_
  refine ab_istore_n 7 [(2, _), (0, _), (1, _)] d_P_renew_6 rfl ?_
  refine ab_aload_n 8 d_P_renew_7 rfl ?_
  refine ab_get 11 d_P_renew_8 fd_5 rfl rfl ?_
  refine ab_iload_n 12 d_P_renew_11 rfl ?_
  obtain ⟨g2, hyp⟩ := ab_gd hyp
  refine ab_ild 1 24 13 d_P_renew_12 rfl g2 ?_
  refine ab_istore_n 14 [(3, _), (2, _), (0, _), (1, _)] d_P_renew_13 rfl ?_
  refine ab_aload_n 15 d_P_renew_14 rfl ?_
  refine ab_get 18 d_P_renew_15 fd_6 rfl rfl ?_
  refine ab_iload_n 19 d_P_renew_18 rfl ?_
  refine ab_aload_n 20 d_P_renew_19 rfl ?_
  refine ab_iload_n 21 d_P_renew_20 rfl ?_
  obtain ⟨r4, hc3, hyp⟩ := ab_bind hyp
  refine ab_callV (h' := lay M) 24 0 0 [.int v1, .ref 7] [.int r4, .int v1, .ref 7] d_P_renew_21 ok_P_isFounder lk_4 (c_P_isFounder hc3) rfl rfl ?_
  refine ab_if_eq 31 27 d_P_renew_24 (fun z5 => ?_) (fun z5 => ?_)
  · replace hyp := ab_pos z5 hyp
    refine ab_iconst 32 d_P_renew_31 (1 : Int32) (by decide) ?_
    refine ab_aload_n 33 d_P_renew_32 rfl ?_
    refine ab_iload_n 34 d_P_renew_33 rfl ?_
    obtain ⟨r7, hc6, hyp⟩ := ab_bind hyp
    refine ab_callV (h' := lay M) 37 0 0 [.int ((1 : Int32)), .int v1, .ref 7] [.int r7, .int ((1 : Int32)), .int v1, .ref 7] d_P_renew_34 ok_P_depthOrZero lk_5 (c_P_depthOrZero hc6) rfl rfl ?_
    refine ab_aload_n 38 d_P_renew_37 rfl ?_
    refine ab_iload_n 39 d_P_renew_38 rfl ?_
    obtain ⟨r9, hc8, hyp⟩ := ab_bind hyp
    refine ab_callV (h' := lay M) 42 0 0 [.int r7, .int ((1 : Int32)), .int v1, .ref 7] [.int r9, .int r7, .int ((1 : Int32)), .int v1, .ref 7] d_P_renew_39 ok_P_depthOrZero lk_5 (c_P_depthOrZero hc8) rfl rfl ?_
    refine ab_mmax 45 d_P_renew_42 lk_6 ?_
    refine ab_iadd 46 d_P_renew_45 ?_
    refine ab_pick [2, 3, 1, 0] [(0, _), (1, _), (2, _), (3, _)] rfl ?_
    exact q_P_renew_c46 v1 (gI M 0 v1) (gI M 1 v1) ((1 : Int32) + (if r7 < r9 then r9 else r7)) v1 M hyp
  · replace hyp := ab_neg z5 hyp
    refine ab_iconst 28 d_P_renew_27 (0 : Int32) (by decide) ?_
    refine ab_goto 46 d_P_renew_28 ?_
    refine ab_pick [2, 3, 1, 0] [(0, _), (1, _), (2, _), (3, _)] rfl ?_
    exact q_P_renew_c46 v1 (gI M 0 v1) (gI M 1 v1) (0 : Int32) v1 M hyp
/-! P_append -/
def P_append (M : Me) (v1 : Int32) (v2 : Int32) : Option (Int32 × Me) :=
  gd (inb (gF M 0) 24) (gd (inb (gF M 0) 24) (Option.bind (P_renew (sI (sI (sF M 0 ((gF M 0) + (1 : Int32))) 0 (gF M 0) v1) 1 (gF M 0) v2) (gF M 0)) (fun r4 => some ((gF M 0), r4))))
def rm_P_append : Room := { frames := 2, locals := 48, cells := 0, slots := 0 }
theorem c_P_append {M : Me} {v1 : Int32} {v2 : Int32} {r : Int32 × Me} (hyp : P_append M v1 v2 = some r) : ab_Met y_P_append rm_P_append [.ref 1, .int v1, .int v2] (lay M) (.ok (some (.int r.1))) (lay r.2) := by
  refine ab_start rfl rfl (Nat.le_of_ble_eq_true rfl) (fun l D B ad => ?_)
  show ab_V _ ad 0 [(0, .ref 1), (1, .int v1), (2, .int v2)] [] _ 0 0
  unfold P_append at hyp
  refine ab_aload_n 1 d_P_append_0 rfl ?_
  refine ab_get 4 d_P_append_1 fd_0 rfl rfl ?_
  refine ab_istore_n 5 [(3, _), (0, _), (1, _), (2, _)] d_P_append_4 rfl ?_
  refine ab_aload_n 6 d_P_append_5 rfl ?_
  refine ab_dupr 7 d_P_append_6 ?_
  refine ab_get 10 d_P_append_7 fd_0 rfl rfl ?_
  refine ab_iconst 11 d_P_append_10 (1 : Int32) (by decide) ?_
  refine ab_iadd 12 d_P_append_11 ?_
  refine ab_puti 15 d_P_append_12 fw_0 rfl (lay_F0 _ _) ?_
  refine ab_aload_n 16 d_P_append_15 rfl ?_
  refine ab_get 19 d_P_append_16 fd_4 rfl rfl ?_
  refine ab_iload_n 20 d_P_append_19 rfl ?_
  refine ab_iload_n 21 d_P_append_20 rfl ?_
  obtain ⟨g1, hyp⟩ := ab_gd hyp
  refine ab_ist 0 24 22 d_P_append_21 rfl g1 lay_I0 ?_
  refine ab_aload_n 23 d_P_append_22 rfl ?_
  refine ab_get 26 d_P_append_23 fd_5 rfl rfl ?_
  refine ab_iload_n 27 d_P_append_26 rfl ?_
  refine ab_iload_n 28 d_P_append_27 rfl ?_
  obtain ⟨g2, hyp⟩ := ab_gd hyp
  refine ab_ist 1 24 29 d_P_append_28 rfl g2 lay_I1 ?_
  refine ab_aload_n 30 d_P_append_29 rfl ?_
  refine ab_iload_n 31 d_P_append_30 rfl ?_
  obtain ⟨r4, hc3, hyp⟩ := ab_bind hyp
  refine ab_callV (h' := lay r4) 34 0 0 [] [] d_P_append_31 ok_P_renew lk_9 (c_P_renew hc3) rfl rfl ?_
  refine ab_iload_n 35 d_P_append_34 rfl ?_
  cases hyp
  exact ab_ireturn d_P_append_35 rfl rfl rfl (Nat.le_of_ble_eq_true rfl) (Nat.le_of_ble_eq_true rfl)
/-! H_enter -/
def H_enter_c9 (v1 : Int32) (v2 : Int32) (v3 : Int32) (v4 : Int32) (M : Me) : Option (Except String Int32 × Me) :=
  if v4 < (0 : Int32) then (some (.error "java/lang/IllegalArgumentException", M)) else (if v4 ≤ (60 : Int32) then (ab_thrP (H_requireAnimalOrNone M v1) (fun r4 => ab_thrP (H_requireAnimalOrNone M v2) (fun r7 => ab_thrP (H_requireFitParents M v1 v2 v4) (fun r10 => Option.bind (P_size M) (fun r13 => if r13 < (24 : Int32) then (Option.bind (P_append M v1 v2) (fun r16 => gd (inb r16.1 24) (gd (inb r16.1 24) (gd (inb r16.1 24) (some (.ok r16.1, (sZ (sI (sI r16.2 5 r16.1 v3) 6 r16.1 v4) 7 r16.1 (1 : Int32)))))))) else (some (.error "java/lang/IllegalStateException", M)))) (fun E11 => some (.error E11, M))) (fun E8 => some (.error E8, M))) (fun E5 => some (.error E5, M))) else (some (.error "java/lang/IllegalArgumentException", M)))
def H_enter (M : Me) (v1 : Int32) (v2 : Int32) (v3 : Int32) (v4 : Int32) : Option (Except String Int32 × Me) :=
  if v3 = (0 : Int32) then (H_enter_c9 v1 v2 v3 v4 M) else (if v3 = (1 : Int32) then (H_enter_c9 v1 v2 v3 v4 M) else (some (.error "java/lang/IllegalArgumentException", M)))
def rm_H_enter : Room := { frames := 8, locals := 124, cells := 4, slots := 24 }
theorem q_H_enter_c9 {l : Launch} {D : va_G} {B : Nat} {ad : Nat → Nat} {r : Except String Int32 × Me} (v1 : Int32) (v2 : Int32) (v3 : Int32) (v4 : Int32) (M : Me) (hyp : H_enter_c9 v1 v2 v3 v4 M = some r) : ab_V (ab_km l D B ad y_H_enter rm_H_enter (Except.map (fun v => some (.int v)) r.1) (lay r.2)) ad 9 [(0, .ref 0), (1, .int v1), (2, .int v2), (3, .int v3), (4, .int v4)] [] (lay M) 0 0 := by
  unfold H_enter_c9 at hyp
  refine ab_iload 11 d_H_enter_9 rfl ?_
  refine ab_if_lt 21 14 d_H_enter_11 (fun z1 => ?_) (fun z1 => ?_)
  · replace hyp := ab_pos z1 hyp
    cases hyp
    exact ab_throw te_2 rfl d_H_enter_21 d_H_enter_24 d_H_enter_25 d_H_enter_27 d_H_enter_30 (Nat.le_of_ble_eq_true rfl) (Nat.le_of_ble_eq_true rfl) rfl rfl (Nat.le_of_ble_eq_true rfl) (Nat.le_of_ble_eq_true rfl)
  · replace hyp := ab_neg z1 hyp
    refine ab_iload 16 d_H_enter_14 rfl ?_
    refine ab_bipush 18 d_H_enter_16 (60 : Int32) (by decide) ?_
    refine ab_ic_le 31 21 d_H_enter_18 (fun z2 => ?_) (fun z2 => ?_)
    · replace hyp := ab_pos z2 hyp
      refine ab_aload_n 32 d_H_enter_31 rfl ?_
      refine ab_iload_n 33 d_H_enter_32 rfl ?_
      rcases ab_thrP_cases hyp with ⟨r4, hc3, hyp⟩ | ⟨E5, hc3, hyp⟩
      · refine ab_callV (h' := lay M) 36 1 6 [] [] d_H_enter_33 ok_H_requireAnimalOrNone lk_10 (c_H_requireAnimalOrNone hc3) rfl rfl ?_
        refine ab_aload_n 37 d_H_enter_36 rfl ?_
        refine ab_iload_n 38 d_H_enter_37 rfl ?_
        rcases ab_thrP_cases hyp with ⟨r7, hc6, hyp⟩ | ⟨E8, hc6, hyp⟩
        · refine ab_callV (h' := lay M) 41 2 12 [] [] d_H_enter_38 ok_H_requireAnimalOrNone lk_10 (c_H_requireAnimalOrNone hc6) rfl rfl ?_
          refine ab_aload_n 42 d_H_enter_41 rfl ?_
          refine ab_iload_n 43 d_H_enter_42 rfl ?_
          refine ab_iload_n 44 d_H_enter_43 rfl ?_
          refine ab_iload 46 d_H_enter_44 rfl ?_
          rcases ab_thrP_cases hyp with ⟨r10, hc9, hyp⟩ | ⟨E11, hc9, hyp⟩
          · refine ab_callV (h' := lay M) 49 3 18 [] [] d_H_enter_46 ok_H_requireFitParents lk_11 (c_H_requireFitParents hc9) rfl rfl ?_
            refine ab_aload_n 50 d_H_enter_49 rfl ?_
            refine ab_get 53 d_H_enter_50 fd_1 rfl rfl ?_
            obtain ⟨r13, hc12, hyp⟩ := ab_bind hyp
            refine ab_callV (h' := lay M) 56 3 18 [] [.int r13] d_H_enter_53 ok_P_size lk_0 (c_P_size hc12) rfl rfl ?_
            refine ab_bipush 58 d_H_enter_56 (24 : Int32) (by decide) ?_
            refine ab_ic_lt 71 61 d_H_enter_58 (fun z14 => ?_) (fun z14 => ?_)
            · replace hyp := ab_pos z14 hyp
              refine ab_aload_n 72 d_H_enter_71 rfl ?_
              refine ab_get 75 d_H_enter_72 fd_1 rfl rfl ?_
              refine ab_iload_n 76 d_H_enter_75 rfl ?_
              refine ab_iload_n 77 d_H_enter_76 rfl ?_
              obtain ⟨r16, hc15, hyp⟩ := ab_bind hyp
              refine ab_callV (h' := lay r16.2) 80 3 18 [] [.int r16.1] d_H_enter_77 ok_P_append lk_12 (c_P_append hc15) rfl rfl ?_
              refine ab_istore 82 [(5, _), (0, _), (1, _), (2, _), (3, _), (4, _)] d_H_enter_80 rfl ?_
              refine ab_aload_n 83 d_H_enter_82 rfl ?_
              refine ab_get 86 d_H_enter_83 fd_2 rfl rfl ?_
              refine ab_iload 88 d_H_enter_86 rfl ?_
              refine ab_iload_n 89 d_H_enter_88 rfl ?_
              obtain ⟨g17, hyp⟩ := ab_gd hyp
              refine ab_ist 5 24 90 d_H_enter_89 rfl g17 lay_I5 ?_
              refine ab_aload_n 91 d_H_enter_90 rfl ?_
              refine ab_get 94 d_H_enter_91 fd_3 rfl rfl ?_
              refine ab_iload 96 d_H_enter_94 rfl ?_
              refine ab_iload 98 d_H_enter_96 rfl ?_
              obtain ⟨g18, hyp⟩ := ab_gd hyp
              refine ab_ist 6 24 99 d_H_enter_98 rfl g18 lay_I6 ?_
              refine ab_aload_n 100 d_H_enter_99 rfl ?_
              refine ab_get 103 d_H_enter_100 fd_10 rfl rfl ?_
              refine ab_iload 105 d_H_enter_103 rfl ?_
              refine ab_iconst 106 d_H_enter_105 (1 : Int32) (by decide) ?_
              obtain ⟨g19, hyp⟩ := ab_gd hyp
              refine ab_zst 7 24 107 d_H_enter_106 rfl g19 lay_Z7 ?_
              refine ab_iload 109 d_H_enter_107 rfl ?_
              cases hyp
              exact ab_ireturn d_H_enter_109 rfl rfl rfl (Nat.le_of_ble_eq_true rfl) (Nat.le_of_ble_eq_true rfl)
            · replace hyp := ab_neg z14 hyp
              cases hyp
              exact ab_throw te_3 rfl d_H_enter_61 d_H_enter_64 d_H_enter_65 d_H_enter_67 d_H_enter_70 (Nat.le_of_ble_eq_true rfl) (Nat.le_of_ble_eq_true rfl) rfl rfl (Nat.le_of_ble_eq_true rfl) (Nat.le_of_ble_eq_true rfl)
          · cases hyp
            refine ab_callVX (h' := lay M) 3 18 [] d_H_enter_46 ok_H_requireFitParents lk_11 (c_H_requireFitParents hc9) rfl rfl ?_
            exact ab_out rfl rfl rfl (Nat.le_of_ble_eq_true rfl) (Nat.le_of_ble_eq_true rfl)
        · cases hyp
          refine ab_callVX (h' := lay M) 2 12 [] d_H_enter_38 ok_H_requireAnimalOrNone lk_10 (c_H_requireAnimalOrNone hc6) rfl rfl ?_
          exact ab_out rfl rfl rfl (Nat.le_of_ble_eq_true rfl) (Nat.le_of_ble_eq_true rfl)
      · cases hyp
        refine ab_callVX (h' := lay M) 1 6 [] d_H_enter_33 ok_H_requireAnimalOrNone lk_10 (c_H_requireAnimalOrNone hc3) rfl rfl ?_
        exact ab_out rfl rfl rfl (Nat.le_of_ble_eq_true rfl) (Nat.le_of_ble_eq_true rfl)
    · replace hyp := ab_neg z2 hyp
      cases hyp
      exact ab_throw te_2 rfl d_H_enter_21 d_H_enter_24 d_H_enter_25 d_H_enter_27 d_H_enter_30 (Nat.le_of_ble_eq_true rfl) (Nat.le_of_ble_eq_true rfl) rfl rfl (Nat.le_of_ble_eq_true rfl) (Nat.le_of_ble_eq_true rfl)
theorem c_H_enter {M : Me} {v1 : Int32} {v2 : Int32} {v3 : Int32} {v4 : Int32} {r : Except String Int32 × Me} (hyp : H_enter M v1 v2 v3 v4 = some r) : ab_Met y_H_enter rm_H_enter [.ref 0, .int v1, .int v2, .int v3, .int v4] (lay M) (Except.map (fun v => some (.int v)) r.1) (lay r.2) := by
  refine ab_start rfl rfl (Nat.le_of_ble_eq_true rfl) (fun l D B ad => ?_)
  show ab_V _ ad 0 [(0, .ref 0), (1, .int v1), (2, .int v2), (3, .int v3), (4, .int v4)] [] _ 0 0
  unfold H_enter at hyp
  refine ab_iload_n 1 d_H_enter_0 rfl ?_
  refine ab_if_eq 9 4 d_H_enter_1 (fun z1 => ?_) (fun z1 => ?_)
  · replace hyp := ab_pos z1 hyp
    refine ab_pick [0, 1, 2, 3, 4] [(0, _), (1, _), (2, _), (3, _), (4, _)] rfl ?_
    exact q_H_enter_c9 v1 v2 v3 v4 M hyp
  · replace hyp := ab_neg z1 hyp
    refine ab_iload_n 5 d_H_enter_4 rfl ?_
    refine ab_iconst 6 d_H_enter_5 (1 : Int32) (by decide) ?_
    refine ab_ic_ne 21 9 d_H_enter_6 (fun z2 => ?_) (fun z2 => ?_)
    · replace hyp := ab_neg z2 hyp
      cases hyp
      exact ab_throw te_2 rfl d_H_enter_21 d_H_enter_24 d_H_enter_25 d_H_enter_27 d_H_enter_30 (Nat.le_of_ble_eq_true rfl) (Nat.le_of_ble_eq_true rfl) rfl rfl (Nat.le_of_ble_eq_true rfl) (Nat.le_of_ble_eq_true rfl)
    · replace hyp := ab_pos z2 hyp
      refine ab_pick [0, 1, 2, 3, 4] [(0, _), (1, _), (2, _), (3, _), (4, _)] rfl ?_
      exact q_H_enter_c9 v1 v2 v3 v4 M hyp
