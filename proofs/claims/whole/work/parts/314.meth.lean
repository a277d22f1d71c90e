/-! L_cull -/
def L_cull (M : Me) (v1 : Int32) : Option (Int32 × Me) :=
  ab_thrW (H_cull M v1) (fun r2 M4 => gd (inb (0 : Int32) 1) (some ((0 : Int32), (sL M4 7 (0 : Int32) r2.toInt64)))) (fun E3 M4 => if E3 = "java/util/NoSuchElementException" then (some ((1 : Int32), M4)) else (if E3 = "java/lang/IllegalStateException" then (some ((2 : Int32), M4)) else (none)))
def rm_L_cull : Room := { frames := 8, locals := 124, cells := 2, slots := 12 }
theorem c_L_cull {M : Me} {v1 : Int32} {r : Int32 × Me} (hyp : L_cull M v1 = some r) : ab_Met y_L_cull rm_L_cull [.ref 0, .int v1, .ref 36] (lay M) (.ok (some (.int r.1))) (lay r.2) := by
  refine ab_startH rfl rfl (Nat.le_of_ble_eq_true rfl) (fun l D B ad => ?_)
  show ab_V _ ad 0 [(0, .ref 0), (1, .int v1), (2, .ref 36)] [] _ 0 0
  unfold L_cull at hyp
  refine ab_aload_n 1 d_L_cull_0 rfl ?_
  refine ab_iconst 2 d_L_cull_1 (0 : Int32) (by decide) ?_
  refine ab_aload_n 3 d_L_cull_2 rfl ?_
  refine ab_iload_n 4 d_L_cull_3 rfl ?_
  rcases ab_thrW_cases hyp with ⟨r2, M4, hc1, hyp⟩ | ⟨E3, M4, hc1, hyp⟩
  · refine ab_callV (h' := lay M4) 7 2 12 [.int ((0 : Int32)), .ref 36] [.int r2, .int ((0 : Int32)), .ref 36] d_L_cull_4 ok_H_cull lk_69 (c_H_cull hc1) rfl rfl ?_
    refine ab_i2l 8 d_L_cull_7 ?_
    obtain ⟨g5, hyp⟩ := ab_gd hyp
    refine ab_lst 7 1 9 d_L_cull_8 rfl g5 lay_L7 ?_
    refine ab_goto 18 d_L_cull_9 ?_
    refine ab_iconst 19 d_L_cull_18 (0 : Int32) (by decide) ?_
    cases hyp
    exact ab_ireturn d_L_cull_19 rfl rfl rfl (Nat.le_of_ble_eq_true rfl) (Nat.le_of_ble_eq_true rfl)
  · by_cases z7 : E3 = "java/util/NoSuchElementException"
    · replace hyp := ab_pos z7 hyp
      subst z7
      refine ab_callVX (h' := lay M4) 2 12 [.int ((0 : Int32)), .ref 36] d_L_cull_4 ok_H_cull lk_69 (c_H_cull hc1) rfl rfl ?_
      refine ab_catch_n 0 13 [(0, _), (1, _), (2, _)] rfl ce_7 d_L_cull_12 rfl ?_
      refine ab_iconst 14 d_L_cull_13 (1 : Int32) (by decide) ?_
      cases hyp
      exact ab_ireturn d_L_cull_14 rfl rfl rfl (Nat.le_of_ble_eq_true rfl) (Nat.le_of_ble_eq_true rfl)
    · replace hyp := ab_neg z7 hyp
      by_cases z6 : E3 = "java/lang/IllegalStateException"
      · replace hyp := ab_pos z6 hyp
        subst z6
        refine ab_callVX (h' := lay M4) 2 12 [.int ((0 : Int32)), .ref 36] d_L_cull_4 ok_H_cull lk_69 (c_H_cull hc1) rfl rfl ?_
        refine ab_catch_n 1 16 [(0, _), (1, _), (2, _)] rfl ce_6 d_L_cull_15 rfl ?_
        refine ab_iconst 17 d_L_cull_16 (2 : Int32) (by decide) ?_
        cases hyp
        exact ab_ireturn d_L_cull_17 rfl rfl rfl (Nat.le_of_ble_eq_true rfl) (Nat.le_of_ble_eq_true rfl)
      · replace hyp := ab_neg z6 hyp
        cases hyp
/-! L_of -/
def L_of (M : Me) (v1 : Int32) (v2 : Int32) : Option (Int32 × Me) :=
  ab_thrP (H_of M v1 v2) (fun r2 => gd (inb (0 : Int32) 1) (some ((0 : Int32), (sL M 7 (0 : Int32) r2.toInt64)))) (fun E3 => if E3 = "java/util/NoSuchElementException" then (some ((1 : Int32), M)) else (if E3 = "java/lang/IndexOutOfBoundsException" then (some ((2 : Int32), M)) else (none)))
def rm_L_of : Room := { frames := 8, locals := 125, cells := 2, slots := 12 }
theorem c_L_of {M : Me} {v1 : Int32} {v2 : Int32} {r : Int32 × Me} (hyp : L_of M v1 v2 = some r) : ab_Met y_L_of rm_L_of [.ref 0, .int v1, .int v2, .ref 36] (lay M) (.ok (some (.int r.1))) (lay r.2) := by
  refine ab_startH rfl rfl (Nat.le_of_ble_eq_true rfl) (fun l D B ad => ?_)
  show ab_V _ ad 0 [(0, .ref 0), (1, .int v1), (2, .int v2), (3, .ref 36)] [] _ 0 0
  unfold L_of at hyp
  refine ab_aload_n 1 d_L_of_0 rfl ?_
  refine ab_iconst 2 d_L_of_1 (0 : Int32) (by decide) ?_
  refine ab_aload_n 3 d_L_of_2 rfl ?_
  refine ab_iload_n 4 d_L_of_3 rfl ?_
  refine ab_iload_n 5 d_L_of_4 rfl ?_
  rcases ab_thrP_cases hyp with ⟨r2, hc1, hyp⟩ | ⟨E3, hc1, hyp⟩
  · refine ab_callV (h' := lay M) 8 2 12 [.int ((0 : Int32)), .ref 36] [.int r2, .int ((0 : Int32)), .ref 36] d_L_of_5 ok_H_of lk_70 (c_H_of hc1) rfl rfl ?_
    refine ab_i2l 9 d_L_of_8 ?_
    obtain ⟨g4, hyp⟩ := ab_gd hyp
    refine ab_lst 7 1 10 d_L_of_9 rfl g4 lay_L7 ?_
    refine ab_goto 21 d_L_of_10 ?_
    refine ab_iconst 22 d_L_of_21 (0 : Int32) (by decide) ?_
    cases hyp
    exact ab_ireturn d_L_of_22 rfl rfl rfl (Nat.le_of_ble_eq_true rfl) (Nat.le_of_ble_eq_true rfl)
  · by_cases z6 : E3 = "java/util/NoSuchElementException"
    · replace hyp := ab_pos z6 hyp
      subst z6
      refine ab_callVX (h' := lay M) 2 12 [.int ((0 : Int32)), .ref 36] d_L_of_5 ok_H_of lk_70 (c_H_of hc1) rfl rfl ?_
      refine ab_catch 0 15 [(0, _), (1, _), (2, _), (3, _)] rfl ce_9 d_L_of_13 rfl ?_
      refine ab_iconst 16 d_L_of_15 (1 : Int32) (by decide) ?_
      cases hyp
      exact ab_ireturn d_L_of_16 rfl rfl rfl (Nat.le_of_ble_eq_true rfl) (Nat.le_of_ble_eq_true rfl)
    · replace hyp := ab_neg z6 hyp
      by_cases z5 : E3 = "java/lang/IndexOutOfBoundsException"
      · replace hyp := ab_pos z5 hyp
        subst z5
        refine ab_callVX (h' := lay M) 2 12 [.int ((0 : Int32)), .ref 36] d_L_of_5 ok_H_of lk_70 (c_H_of hc1) rfl rfl ?_
        refine ab_catch 1 19 [(0, _), (1, _), (2, _), (3, _)] rfl ce_8 d_L_of_17 rfl ?_
        refine ab_iconst 20 d_L_of_19 (2 : Int32) (by decide) ?_
        cases hyp
        exact ab_ireturn d_L_of_20 rfl rfl rfl (Nat.le_of_ble_eq_true rfl) (Nat.le_of_ble_eq_true rfl)
      · replace hyp := ab_neg z5 hyp
        cases hyp
/-! L_kinship -/
def L_kinship (M : Me) (v1 : Int32) (v2 : Int32) : Option (Int32 × Me) :=
  ab_thrP (H_kinship M v1 v2) (fun r2 => gd (inb (0 : Int32) 1) (some ((0 : Int32), (sL M 7 (0 : Int32) r2)))) (fun E3 => if E3 = "java/util/NoSuchElementException" then (some ((1 : Int32), M)) else (none))
def rm_L_kinship : Room := { frames := 8, locals := 125, cells := 2, slots := 12 }
theorem c_L_kinship {M : Me} {v1 : Int32} {v2 : Int32} {r : Int32 × Me} (hyp : L_kinship M v1 v2 = some r) : ab_Met y_L_kinship rm_L_kinship [.ref 0, .int v1, .int v2, .ref 36] (lay M) (.ok (some (.int r.1))) (lay r.2) := by
  refine ab_startH rfl rfl (Nat.le_of_ble_eq_true rfl) (fun l D B ad => ?_)
  show ab_V _ ad 0 [(0, .ref 0), (1, .int v1), (2, .int v2), (3, .ref 36)] [] _ 0 0
  unfold L_kinship at hyp
  refine ab_aload_n 1 d_L_kinship_0 rfl ?_
  refine ab_iconst 2 d_L_kinship_1 (0 : Int32) (by decide) ?_
  refine ab_aload_n 3 d_L_kinship_2 rfl ?_
  refine ab_iload_n 4 d_L_kinship_3 rfl ?_
  refine ab_iload_n 5 d_L_kinship_4 rfl ?_
  rcases ab_thrP_cases hyp with ⟨r2, hc1, hyp⟩ | ⟨E3, hc1, hyp⟩
  · refine ab_callV (h' := lay M) 8 2 12 [.int ((0 : Int32)), .ref 36] [.long r2, .int ((0 : Int32)), .ref 36] d_L_kinship_5 ok_H_kinship lk_71 (c_H_kinship hc1) rfl rfl ?_
    obtain ⟨g4, hyp⟩ := ab_gd hyp
    refine ab_lst 7 1 9 d_L_kinship_8 rfl g4 lay_L7 ?_
    refine ab_goto 16 d_L_kinship_9 ?_
    refine ab_iconst 17 d_L_kinship_16 (0 : Int32) (by decide) ?_
    cases hyp
    exact ab_ireturn d_L_kinship_17 rfl rfl rfl (Nat.le_of_ble_eq_true rfl) (Nat.le_of_ble_eq_true rfl)
  · by_cases z5 : E3 = "java/util/NoSuchElementException"
    · replace hyp := ab_pos z5 hyp
      subst z5
      refine ab_callVX (h' := lay M) 2 12 [.int ((0 : Int32)), .ref 36] d_L_kinship_5 ok_H_kinship lk_71 (c_H_kinship hc1) rfl rfl ?_
      refine ab_catch 0 14 [(0, _), (1, _), (2, _), (3, _)] rfl ce_10 d_L_kinship_12 rfl ?_
      refine ab_iconst 15 d_L_kinship_14 (1 : Int32) (by decide) ?_
      cases hyp
      exact ab_ireturn d_L_kinship_15 rfl rfl rfl (Nat.le_of_ble_eq_true rfl) (Nat.le_of_ble_eq_true rfl)
    · replace hyp := ab_neg z5 hyp
      cases hyp
/-! L_inbreeding -/
def L_inbreeding (M : Me) (v1 : Int32) : Option (Int32 × Me) :=
  ab_thrP (H_inbreeding M v1) (fun r2 => gd (inb (0 : Int32) 1) (some ((0 : Int32), (sL M 7 (0 : Int32) r2)))) (fun E3 => if E3 = "java/util/NoSuchElementException" then (some ((1 : Int32), M)) else (none))
def rm_L_inbreeding : Room := { frames := 8, locals := 124, cells := 1, slots := 6 }
theorem c_L_inbreeding {M : Me} {v1 : Int32} {r : Int32 × Me} (hyp : L_inbreeding M v1 = some r) : ab_Met y_L_inbreeding rm_L_inbreeding [.ref 0, .int v1, .ref 36] (lay M) (.ok (some (.int r.1))) (lay r.2) := by
  refine ab_startH rfl rfl (Nat.le_of_ble_eq_true rfl) (fun l D B ad => ?_)
  show ab_V _ ad 0 [(0, .ref 0), (1, .int v1), (2, .ref 36)] [] _ 0 0
  unfold L_inbreeding at hyp
  refine ab_aload_n 1 d_L_inbreeding_0 rfl ?_
  refine ab_iconst 2 d_L_inbreeding_1 (0 : Int32) (by decide) ?_
  refine ab_aload_n 3 d_L_inbreeding_2 rfl ?_
  refine ab_iload_n 4 d_L_inbreeding_3 rfl ?_
  rcases ab_thrP_cases hyp with ⟨r2, hc1, hyp⟩ | ⟨E3, hc1, hyp⟩
  · refine ab_callV (h' := lay M) 7 1 6 [.int ((0 : Int32)), .ref 36] [.long r2, .int ((0 : Int32)), .ref 36] d_L_inbreeding_4 ok_H_inbreeding lk_72 (c_H_inbreeding hc1) rfl rfl ?_
    obtain ⟨g4, hyp⟩ := ab_gd hyp
    refine ab_lst 7 1 8 d_L_inbreeding_7 rfl g4 lay_L7 ?_
    refine ab_goto 14 d_L_inbreeding_8 ?_
    refine ab_iconst 15 d_L_inbreeding_14 (0 : Int32) (by decide) ?_
    cases hyp
    exact ab_ireturn d_L_inbreeding_15 rfl rfl rfl (Nat.le_of_ble_eq_true rfl) (Nat.le_of_ble_eq_true rfl)
  · by_cases z5 : E3 = "java/util/NoSuchElementException"
    · replace hyp := ab_pos z5 hyp
      subst z5
      refine ab_callVX (h' := lay M) 1 6 [.int ((0 : Int32)), .ref 36] d_L_inbreeding_4 ok_H_inbreeding lk_72 (c_H_inbreeding hc1) rfl rfl ?_
      refine ab_catch_n 0 12 [(0, _), (1, _), (2, _)] rfl ce_11 d_L_inbreeding_11 rfl ?_
      refine ab_iconst 13 d_L_inbreeding_12 (1 : Int32) (by decide) ?_
      cases hyp
      exact ab_ireturn d_L_inbreeding_13 rfl rfl rfl (Nat.le_of_ble_eq_true rfl) (Nat.le_of_ble_eq_true rfl)
    · replace hyp := ab_neg z5 hyp
      cases hyp
/-! L_calf -/
def L_calf (M : Me) (v1 : Int32) (v2 : Int32) : Option (Int32 × Me) :=
  ab_thrP (H_calf M v1 v2) (fun r2 => gd (inb (0 : Int32) 1) (some ((0 : Int32), (sL M 7 (0 : Int32) r2)))) (fun E3 => if E3 = "java/util/NoSuchElementException" then (some ((1 : Int32), M)) else (none))
def rm_L_calf : Room := { frames := 8, locals := 125, cells := 2, slots := 12 }
theorem c_L_calf {M : Me} {v1 : Int32} {v2 : Int32} {r : Int32 × Me} (hyp : L_calf M v1 v2 = some r) : ab_Met y_L_calf rm_L_calf [.ref 0, .int v1, .int v2, .ref 36] (lay M) (.ok (some (.int r.1))) (lay r.2) := by
  refine ab_startH rfl rfl (Nat.le_of_ble_eq_true rfl) (fun l D B ad => ?_)
  show ab_V _ ad 0 [(0, .ref 0), (1, .int v1), (2, .int v2), (3, .ref 36)] [] _ 0 0
  unfold L_calf at hyp
  refine ab_aload_n 1 d_L_calf_0 rfl ?_
  refine ab_iconst 2 d_L_calf_1 (0 : Int32) (by decide) ?_
  refine ab_aload_n 3 d_L_calf_2 rfl ?_
  refine ab_iload_n 4 d_L_calf_3 rfl ?_
  refine ab_iload_n 5 d_L_calf_4 rfl ?_
  rcases ab_thrP_cases hyp with ⟨r2, hc1, hyp⟩ | ⟨E3, hc1, hyp⟩
  · refine ab_callV (h' := lay M) 8 2 12 [.int ((0 : Int32)), .ref 36] [.long r2, .int ((0 : Int32)), .ref 36] d_L_calf_5 ok_H_calf lk_73 (c_H_calf hc1) rfl rfl ?_
    obtain ⟨g4, hyp⟩ := ab_gd hyp
    refine ab_lst 7 1 9 d_L_calf_8 rfl g4 lay_L7 ?_
    refine ab_goto 16 d_L_calf_9 ?_
    refine ab_iconst 17 d_L_calf_16 (0 : Int32) (by decide) ?_
    cases hyp
    exact ab_ireturn d_L_calf_17 rfl rfl rfl (Nat.le_of_ble_eq_true rfl) (Nat.le_of_ble_eq_true rfl)
  · by_cases z5 : E3 = "java/util/NoSuchElementException"
    · replace hyp := ab_pos z5 hyp
      subst z5
      refine ab_callVX (h' := lay M) 2 12 [.int ((0 : Int32)), .ref 36] d_L_calf_5 ok_H_calf lk_73 (c_H_calf hc1) rfl rfl ?_
      refine ab_catch 0 14 [(0, _), (1, _), (2, _), (3, _)] rfl ce_12 d_L_calf_12 rfl ?_
      refine ab_iconst 15 d_L_calf_14 (1 : Int32) (by decide) ?_
      cases hyp
      exact ab_ireturn d_L_calf_15 rfl rfl rfl (Nat.le_of_ble_eq_true rfl) (Nat.le_of_ble_eq_true rfl)
    · replace hyp := ab_neg z5 hyp
      cases hyp
/-! L_share -/
def L_share (M : Me) (v1 : Int32) (v2 : Int32) : Option (Int32 × Me) :=
  ab_thrW (H_share M v1 v2) (fun r2 M4 => gd (inb (0 : Int32) 1) (some ((0 : Int32), (sL M4 7 (0 : Int32) r2)))) (fun E3 M4 => if E3 = "java/util/NoSuchElementException" then (some ((1 : Int32), M4)) else (if E3 = "java/lang/UnsupportedOperationException" then (some ((2 : Int32), M4)) else (none)))
def rm_L_share : Room := { frames := 8, locals := 125, cells := 3, slots := 18 }
theorem c_L_share {M : Me} {v1 : Int32} {v2 : Int32} {r : Int32 × Me} (hyp : L_share M v1 v2 = some r) : ab_Met y_L_share rm_L_share [.ref 0, .int v1, .int v2, .ref 36] (lay M) (.ok (some (.int r.1))) (lay r.2) := by
  refine ab_startH rfl rfl (Nat.le_of_ble_eq_true rfl) (fun l D B ad => ?_)
  show ab_V _ ad 0 [(0, .ref 0), (1, .int v1), (2, .int v2), (3, .ref 36)] [] _ 0 0
  unfold L_share at hyp
  refine ab_aload_n 1 d_L_share_0 rfl ?_
  refine ab_iconst 2 d_L_share_1 (0 : Int32) (by decide) ?_
  refine ab_aload_n 3 d_L_share_2 rfl ?_
  refine ab_iload_n 4 d_L_share_3 rfl ?_
  refine ab_iload_n 5 d_L_share_4 rfl ?_
  rcases ab_thrW_cases hyp with ⟨r2, M4, hc1, hyp⟩ | ⟨E3, M4, hc1, hyp⟩
  · refine ab_callV (h' := lay M4) 8 3 18 [.int ((0 : Int32)), .ref 36] [.long r2, .int ((0 : Int32)), .ref 36] d_L_share_5 ok_H_share lk_74 (c_H_share hc1) rfl rfl ?_
    obtain ⟨g5, hyp⟩ := ab_gd hyp
    refine ab_lst 7 1 9 d_L_share_8 rfl g5 lay_L7 ?_
    refine ab_goto 20 d_L_share_9 ?_
    refine ab_iconst 21 d_L_share_20 (0 : Int32) (by decide) ?_
    cases hyp
    exact ab_ireturn d_L_share_21 rfl rfl rfl (Nat.le_of_ble_eq_true rfl) (Nat.le_of_ble_eq_true rfl)
  · by_cases z7 : E3 = "java/util/NoSuchElementException"
    · replace hyp := ab_pos z7 hyp
      subst z7
      refine ab_callVX (h' := lay M4) 3 18 [.int ((0 : Int32)), .ref 36] d_L_share_5 ok_H_share lk_74 (c_H_share hc1) rfl rfl ?_
      refine ab_catch 0 14 [(0, _), (1, _), (2, _), (3, _)] rfl ce_14 d_L_share_12 rfl ?_
      refine ab_iconst 15 d_L_share_14 (1 : Int32) (by decide) ?_
      cases hyp
      exact ab_ireturn d_L_share_15 rfl rfl rfl (Nat.le_of_ble_eq_true rfl) (Nat.le_of_ble_eq_true rfl)
    · replace hyp := ab_neg z7 hyp
      by_cases z6 : E3 = "java/lang/UnsupportedOperationException"
      · replace hyp := ab_pos z6 hyp
        subst z6
        refine ab_callVX (h' := lay M4) 3 18 [.int ((0 : Int32)), .ref 36] d_L_share_5 ok_H_share lk_74 (c_H_share hc1) rfl rfl ?_
        refine ab_catch 1 18 [(0, _), (1, _), (2, _), (3, _)] rfl ce_13 d_L_share_16 rfl ?_
        refine ab_iconst 19 d_L_share_18 (2 : Int32) (by decide) ?_
        cases hyp
        exact ab_ireturn d_L_share_19 rfl rfl rfl (Nat.le_of_ble_eq_true rfl) (Nat.le_of_ble_eq_true rfl)
      · replace hyp := ab_neg z6 hyp
        cases hyp
/-! L_unknown -/
def L_unknown (M : Me) (v1 : Int32) : Option (Int32 × Me) :=
  ab_thrW (H_unknown M v1) (fun r2 M4 => gd (inb (0 : Int32) 1) (some ((0 : Int32), (sL M4 7 (0 : Int32) r2)))) (fun E3 M4 => if E3 = "java/util/NoSuchElementException" then (some ((1 : Int32), M4)) else (none))
def rm_L_unknown : Room := { frames := 8, locals := 124, cells := 1, slots := 6 }
theorem c_L_unknown {M : Me} {v1 : Int32} {r : Int32 × Me} (hyp : L_unknown M v1 = some r) : ab_Met y_L_unknown rm_L_unknown [.ref 0, .int v1, .ref 36] (lay M) (.ok (some (.int r.1))) (lay r.2) := by
  refine ab_startH rfl rfl (Nat.le_of_ble_eq_true rfl) (fun l D B ad => ?_)
  show ab_V _ ad 0 [(0, .ref 0), (1, .int v1), (2, .ref 36)] [] _ 0 0
  unfold L_unknown at hyp
  refine ab_aload_n 1 d_L_unknown_0 rfl ?_
  refine ab_iconst 2 d_L_unknown_1 (0 : Int32) (by decide) ?_
  refine ab_aload_n 3 d_L_unknown_2 rfl ?_
  refine ab_iload_n 4 d_L_unknown_3 rfl ?_
  rcases ab_thrW_cases hyp with ⟨r2, M4, hc1, hyp⟩ | ⟨E3, M4, hc1, hyp⟩
  · refine ab_callV (h' := lay M4) 7 1 6 [.int ((0 : Int32)), .ref 36] [.long r2, .int ((0 : Int32)), .ref 36] d_L_unknown_4 ok_H_unknown lk_75 (c_H_unknown hc1) rfl rfl ?_
    obtain ⟨g5, hyp⟩ := ab_gd hyp
    refine ab_lst 7 1 8 d_L_unknown_7 rfl g5 lay_L7 ?_
    refine ab_goto 14 d_L_unknown_8 ?_
    refine ab_iconst 15 d_L_unknown_14 (0 : Int32) (by decide) ?_
    cases hyp
    exact ab_ireturn d_L_unknown_15 rfl rfl rfl (Nat.le_of_ble_eq_true rfl) (Nat.le_of_ble_eq_true rfl)
  · by_cases z6 : E3 = "java/util/NoSuchElementException"
    · replace hyp := ab_pos z6 hyp
      subst z6
      refine ab_callVX (h' := lay M4) 1 6 [.int ((0 : Int32)), .ref 36] d_L_unknown_4 ok_H_unknown lk_75 (c_H_unknown hc1) rfl rfl ?_
      refine ab_catch_n 0 12 [(0, _), (1, _), (2, _)] rfl ce_15 d_L_unknown_11 rfl ?_
      refine ab_iconst 13 d_L_unknown_12 (1 : Int32) (by decide) ?_
      cases hyp
      exact ab_ireturn d_L_unknown_13 rfl rfl rfl (Nat.le_of_ble_eq_true rfl) (Nat.le_of_ble_eq_true rfl)
    · replace hyp := ab_neg z6 hyp
      cases hyp
/-! L_inHerd -/
def L_inHerd (M : Me) (v1 : Int32) : Option (Int32 × Me) :=
  ab_thrW (H_inHerd M v1) (fun r2 M4 => gd (inb (0 : Int32) 1) (some ((0 : Int32), (sL M4 7 (0 : Int32) r2)))) (fun E3 M4 => if E3 = "java/util/NoSuchElementException" then (some ((1 : Int32), M4)) else (if E3 = "java/lang/UnsupportedOperationException" then (some ((2 : Int32), M4)) else (none)))
def rm_L_inHerd : Room := { frames := 8, locals := 127, cells := 2, slots := 12 }
theorem c_L_inHerd {M : Me} {v1 : Int32} {r : Int32 × Me} (hyp : L_inHerd M v1 = some r) : ab_Met y_L_inHerd rm_L_inHerd [.ref 0, .int v1, .ref 36] (lay M) (.ok (some (.int r.1))) (lay r.2) := by
  refine ab_startH rfl rfl (Nat.le_of_ble_eq_true rfl) (fun l D B ad => ?_)
  show ab_V _ ad 0 [(0, .ref 0), (1, .int v1), (2, .ref 36)] [] _ 0 0
  unfold L_inHerd at hyp
  refine ab_aload_n 1 d_L_inHerd_0 rfl ?_
  refine ab_iconst 2 d_L_inHerd_1 (0 : Int32) (by decide) ?_
  refine ab_aload_n 3 d_L_inHerd_2 rfl ?_
  refine ab_iload_n 4 d_L_inHerd_3 rfl ?_
  rcases ab_thrW_cases hyp with ⟨r2, M4, hc1, hyp⟩ | ⟨E3, M4, hc1, hyp⟩
  · refine ab_callV (h' := lay M4) 7 2 12 [.int ((0 : Int32)), .ref 36] [.long r2, .int ((0 : Int32)), .ref 36] d_L_inHerd_4 ok_H_inHerd lk_76 (c_H_inHerd hc1) rfl rfl ?_
    obtain ⟨g5, hyp⟩ := ab_gd hyp
    refine ab_lst 7 1 8 d_L_inHerd_7 rfl g5 lay_L7 ?_
    refine ab_goto 17 d_L_inHerd_8 ?_
    refine ab_iconst 18 d_L_inHerd_17 (0 : Int32) (by decide) ?_
    cases hyp
    exact ab_ireturn d_L_inHerd_18 rfl rfl rfl (Nat.le_of_ble_eq_true rfl) (Nat.le_of_ble_eq_true rfl)
  · by_cases z7 : E3 = "java/util/NoSuchElementException"
    · replace hyp := ab_pos z7 hyp
      subst z7
      refine ab_callVX (h' := lay M4) 2 12 [.int ((0 : Int32)), .ref 36] d_L_inHerd_4 ok_H_inHerd lk_76 (c_H_inHerd hc1) rfl rfl ?_
      refine ab_catch_n 0 12 [(0, _), (1, _), (2, _)] rfl ce_17 d_L_inHerd_11 rfl ?_
      refine ab_iconst 13 d_L_inHerd_12 (1 : Int32) (by decide) ?_
      cases hyp
      exact ab_ireturn d_L_inHerd_13 rfl rfl rfl (Nat.le_of_ble_eq_true rfl) (Nat.le_of_ble_eq_true rfl)
    · replace hyp := ab_neg z7 hyp
      by_cases z6 : E3 = "java/lang/UnsupportedOperationException"
      · replace hyp := ab_pos z6 hyp
        subst z6
        refine ab_callVX (h' := lay M4) 2 12 [.int ((0 : Int32)), .ref 36] d_L_inHerd_4 ok_H_inHerd lk_76 (c_H_inHerd hc1) rfl rfl ?_
        refine ab_catch_n 1 15 [(0, _), (1, _), (2, _)] rfl ce_16 d_L_inHerd_14 rfl ?_
        refine ab_iconst 16 d_L_inHerd_15 (2 : Int32) (by decide) ?_
        cases hyp
        exact ab_ireturn d_L_inHerd_16 rfl rfl rfl (Nat.le_of_ble_eq_true rfl) (Nat.le_of_ble_eq_true rfl)
      · replace hyp := ab_neg z6 hyp
        cases hyp
/-! L_ancestors -/
def L_ancestors (M : Me) (v1 : Int32) : Option (Int32 × Me) :=
  ab_thrP (H_ancestors M v1) (fun r2 => gd (inb (0 : Int32) 1) (some ((0 : Int32), (sL M 7 (0 : Int32) r2.toInt64)))) (fun E3 => if E3 = "java/util/NoSuchElementException" then (some ((1 : Int32), M)) else (none))
def rm_L_ancestors : Room := { frames := 8, locals := 124, cells := 1, slots := 6 }
theorem c_L_ancestors {M : Me} {v1 : Int32} {r : Int32 × Me} (hyp : L_ancestors M v1 = some r) : ab_Met y_L_ancestors rm_L_ancestors [.ref 0, .int v1, .ref 36] (lay M) (.ok (some (.int r.1))) (lay r.2) := by
  refine ab_startH rfl rfl (Nat.le_of_ble_eq_true rfl) (fun l D B ad => ?_)
  show ab_V _ ad 0 [(0, .ref 0), (1, .int v1), (2, .ref 36)] [] _ 0 0
  unfold L_ancestors at hyp
  refine ab_aload_n 1 d_L_ancestors_0 rfl ?_
  refine ab_iconst 2 d_L_ancestors_1 (0 : Int32) (by decide) ?_
  refine ab_aload_n 3 d_L_ancestors_2 rfl ?_
  refine ab_iload_n 4 d_L_ancestors_3 rfl ?_
  rcases ab_thrP_cases hyp with ⟨r2, hc1, hyp⟩ | ⟨E3, hc1, hyp⟩
  · refine ab_callV (h' := lay M) 7 1 6 [.int ((0 : Int32)), .ref 36] [.int r2, .int ((0 : Int32)), .ref 36] d_L_ancestors_4 ok_H_ancestors lk_77 (c_H_ancestors hc1) rfl rfl ?_
    refine ab_i2l 8 d_L_ancestors_7 ?_
    obtain ⟨g4, hyp⟩ := ab_gd hyp
    refine ab_lst 7 1 9 d_L_ancestors_8 rfl g4 lay_L7 ?_
    refine ab_goto 15 d_L_ancestors_9 ?_
    refine ab_iconst 16 d_L_ancestors_15 (0 : Int32) (by decide) ?_
    cases hyp
    exact ab_ireturn d_L_ancestors_16 rfl rfl rfl (Nat.le_of_ble_eq_true rfl) (Nat.le_of_ble_eq_true rfl)
  · by_cases z5 : E3 = "java/util/NoSuchElementException"
    · replace hyp := ab_pos z5 hyp
      subst z5
      refine ab_callVX (h' := lay M) 1 6 [.int ((0 : Int32)), .ref 36] d_L_ancestors_4 ok_H_ancestors lk_77 (c_H_ancestors hc1) rfl rfl ?_
      refine ab_catch_n 0 13 [(0, _), (1, _), (2, _)] rfl ce_18 d_L_ancestors_12 rfl ?_
      refine ab_iconst 14 d_L_ancestors_13 (1 : Int32) (by decide) ?_
      cases hyp
      exact ab_ireturn d_L_ancestors_14 rfl rfl rfl (Nat.le_of_ble_eq_true rfl) (Nat.le_of_ble_eq_true rfl)
    · replace hyp := ab_neg z5 hyp
      cases hyp
/-! L_descendants -/
def L_descendants (M : Me) (v1 : Int32) : Option (Int32 × Me) :=
  ab_thrP (H_descendants M v1) (fun r2 => gd (inb (0 : Int32) 1) (some ((0 : Int32), (sL M 7 (0 : Int32) r2.toInt64)))) (fun E3 => if E3 = "java/util/NoSuchElementException" then (some ((1 : Int32), M)) else (none))
def rm_L_descendants : Room := { frames := 8, locals := 124, cells := 1, slots := 6 }
theorem c_L_descendants {M : Me} {v1 : Int32} {r : Int32 × Me} (hyp : L_descendants M v1 = some r) : ab_Met y_L_descendants rm_L_descendants [.ref 0, .int v1, .ref 36] (lay M) (.ok (some (.int r.1))) (lay r.2) := by
  refine ab_startH rfl rfl (Nat.le_of_ble_eq_true rfl) (fun l D B ad => ?_)
  show ab_V _ ad 0 [(0, .ref 0), (1, .int v1), (2, .ref 36)] [] _ 0 0
  unfold L_descendants at hyp
  refine ab_aload_n 1 d_L_descendants_0 rfl ?_
  refine ab_iconst 2 d_L_descendants_1 (0 : Int32) (by decide) ?_
  refine ab_aload_n 3 d_L_descendants_2 rfl ?_
  refine ab_iload_n 4 d_L_descendants_3 rfl ?_
  rcases ab_thrP_cases hyp with ⟨r2, hc1, hyp⟩ | ⟨E3, hc1, hyp⟩
  · refine ab_callV (h' := lay M) 7 1 6 [.int ((0 : Int32)), .ref 36] [.int r2, .int ((0 : Int32)), .ref 36] d_L_descendants_4 ok_H_descendants lk_78 (c_H_descendants hc1) rfl rfl ?_
    refine ab_i2l 8 d_L_descendants_7 ?_
    obtain ⟨g4, hyp⟩ := ab_gd hyp
    refine ab_lst 7 1 9 d_L_descendants_8 rfl g4 lay_L7 ?_
    refine ab_goto 15 d_L_descendants_9 ?_
    refine ab_iconst 16 d_L_descendants_15 (0 : Int32) (by decide) ?_
    cases hyp
    exact ab_ireturn d_L_descendants_16 rfl rfl rfl (Nat.le_of_ble_eq_true rfl) (Nat.le_of_ble_eq_true rfl)
  · by_cases z5 : E3 = "java/util/NoSuchElementException"
    · replace hyp := ab_pos z5 hyp
      subst z5
      refine ab_callVX (h' := lay M) 1 6 [.int ((0 : Int32)), .ref 36] d_L_descendants_4 ok_H_descendants lk_78 (c_H_descendants hc1) rfl rfl ?_
      refine ab_catch_n 0 13 [(0, _), (1, _), (2, _)] rfl ce_19 d_L_descendants_12 rfl ?_
      refine ab_iconst 14 d_L_descendants_13 (1 : Int32) (by decide) ?_
      cases hyp
      exact ab_ireturn d_L_descendants_14 rfl rfl rfl (Nat.le_of_ble_eq_true rfl) (Nat.le_of_ble_eq_true rfl)
    · replace hyp := ab_neg z5 hyp
      cases hyp
/-! L_lines -/
def L_lines (M : Me) (v1 : Int32) (v2 : Int32) : Option (Int32 × Me) :=
  ab_thrW (H_lines M v1 v2) (fun r2 M4 => gd (inb (0 : Int32) 1) (some ((0 : Int32), (sL M4 7 (0 : Int32) r2.toInt64)))) (fun E3 M4 => if E3 = "java/util/NoSuchElementException" then (some ((1 : Int32), M4)) else (none))
def rm_L_lines : Room := { frames := 8, locals := 125, cells := 2, slots := 12 }
theorem c_L_lines {M : Me} {v1 : Int32} {v2 : Int32} {r : Int32 × Me} (hyp : L_lines M v1 v2 = some r) : ab_Met y_L_lines rm_L_lines [.ref 0, .int v1, .int v2, .ref 36] (lay M) (.ok (some (.int r.1))) (lay r.2) := by
  refine ab_startH rfl rfl (Nat.le_of_ble_eq_true rfl) (fun l D B ad => ?_)
  show ab_V _ ad 0 [(0, .ref 0), (1, .int v1), (2, .int v2), (3, .ref 36)] [] _ 0 0
  unfold L_lines at hyp
  refine ab_aload_n 1 d_L_lines_0 rfl ?_
  refine ab_iconst 2 d_L_lines_1 (0 : Int32) (by decide) ?_
  refine ab_aload_n 3 d_L_lines_2 rfl ?_
  refine ab_iload_n 4 d_L_lines_3 rfl ?_
  refine ab_iload_n 5 d_L_lines_4 rfl ?_
  rcases ab_thrW_cases hyp with ⟨r2, M4, hc1, hyp⟩ | ⟨E3, M4, hc1, hyp⟩
  · refine ab_callV (h' := lay M4) 8 2 12 [.int ((0 : Int32)), .ref 36] [.int r2, .int ((0 : Int32)), .ref 36] d_L_lines_5 ok_H_lines lk_79 (c_H_lines hc1) rfl rfl ?_
    refine ab_i2l 9 d_L_lines_8 ?_
    obtain ⟨g5, hyp⟩ := ab_gd hyp
    refine ab_lst 7 1 10 d_L_lines_9 rfl g5 lay_L7 ?_
    refine ab_goto 17 d_L_lines_10 ?_
    refine ab_iconst 18 d_L_lines_17 (0 : Int32) (by decide) ?_
    cases hyp
    exact ab_ireturn d_L_lines_18 rfl rfl rfl (Nat.le_of_ble_eq_true rfl) (Nat.le_of_ble_eq_true rfl)
  · by_cases z6 : E3 = "java/util/NoSuchElementException"
    · replace hyp := ab_pos z6 hyp
      subst z6
      refine ab_callVX (h' := lay M4) 2 12 [.int ((0 : Int32)), .ref 36] d_L_lines_5 ok_H_lines lk_79 (c_H_lines hc1) rfl rfl ?_
      refine ab_catch 0 15 [(0, _), (1, _), (2, _), (3, _)] rfl ce_20 d_L_lines_13 rfl ?_
      refine ab_iconst 16 d_L_lines_15 (1 : Int32) (by decide) ?_
      cases hyp
      exact ab_ireturn d_L_lines_16 rfl rfl rfl (Nat.le_of_ble_eq_true rfl) (Nat.le_of_ble_eq_true rfl)
    · replace hyp := ab_neg z6 hyp
      cases hyp
/-! L_nearest -/
def L_nearest (M : Me) (v1 : Int32) (v2 : Int32) : Option (Int32 × Me) :=
  ab_thrP (H_nearest M v1 v2) (fun r2 => gd (inb (0 : Int32) 1) (some ((0 : Int32), (sL M 7 (0 : Int32) r2.toInt64)))) (fun E3 => if E3 = "java/util/NoSuchElementException" then (some ((1 : Int32), M)) else (none))
def rm_L_nearest : Room := { frames := 8, locals := 125, cells := 2, slots := 12 }
theorem c_L_nearest {M : Me} {v1 : Int32} {v2 : Int32} {r : Int32 × Me} (hyp : L_nearest M v1 v2 = some r) : ab_Met y_L_nearest rm_L_nearest [.ref 0, .int v1, .int v2, .ref 36] (lay M) (.ok (some (.int r.1))) (lay r.2) := by
  refine ab_startH rfl rfl (Nat.le_of_ble_eq_true rfl) (fun l D B ad => ?_)
  show ab_V _ ad 0 [(0, .ref 0), (1, .int v1), (2, .int v2), (3, .ref 36)] [] _ 0 0
  unfold L_nearest at hyp
  refine ab_aload_n 1 d_L_nearest_0 rfl ?_
  refine ab_iconst 2 d_L_nearest_1 (0 : Int32) (by decide) ?_
  refine ab_aload_n 3 d_L_nearest_2 rfl ?_
  refine ab_iload_n 4 d_L_nearest_3 rfl ?_
  refine ab_iload_n 5 d_L_nearest_4 rfl ?_
  rcases ab_thrP_cases hyp with ⟨r2, hc1, hyp⟩ | ⟨E3, hc1, hyp⟩
  · refine ab_callV (h' := lay M) 8 2 12 [.int ((0 : Int32)), .ref 36] [.int r2, .int ((0 : Int32)), .ref 36] d_L_nearest_5 ok_H_nearest lk_80 (c_H_nearest hc1) rfl rfl ?_
    refine ab_i2l 9 d_L_nearest_8 ?_
    obtain ⟨g4, hyp⟩ := ab_gd hyp
    refine ab_lst 7 1 10 d_L_nearest_9 rfl g4 lay_L7 ?_
    refine ab_goto 17 d_L_nearest_10 ?_
    refine ab_iconst 18 d_L_nearest_17 (0 : Int32) (by decide) ?_
    cases hyp
    exact ab_ireturn d_L_nearest_18 rfl rfl rfl (Nat.le_of_ble_eq_true rfl) (Nat.le_of_ble_eq_true rfl)
  · by_cases z5 : E3 = "java/util/NoSuchElementException"
    · replace hyp := ab_pos z5 hyp
      subst z5
      refine ab_callVX (h' := lay M) 2 12 [.int ((0 : Int32)), .ref 36] d_L_nearest_5 ok_H_nearest lk_80 (c_H_nearest hc1) rfl rfl ?_
      refine ab_catch 0 15 [(0, _), (1, _), (2, _), (3, _)] rfl ce_21 d_L_nearest_13 rfl ?_
      refine ab_iconst 16 d_L_nearest_15 (1 : Int32) (by decide) ?_
      cases hyp
      exact ab_ireturn d_L_nearest_16 rfl rfl rfl (Nat.le_of_ble_eq_true rfl) (Nat.le_of_ble_eq_true rfl)
    · replace hyp := ab_neg z5 hyp
      cases hyp
/-! L_closest -/
def L_closest (M : Me) (v1 : Int32) : Option (Int32 × Me) :=
  ab_thrP (H_closest M v1) (fun r2 => gd (inb (0 : Int32) 1) (some ((0 : Int32), (sL M 7 (0 : Int32) r2.toInt64)))) (fun E3 => if E3 = "java/util/NoSuchElementException" then (some ((1 : Int32), M)) else (none))
def rm_L_closest : Room := { frames := 8, locals := 126, cells := 1, slots := 6 }
theorem c_L_closest {M : Me} {v1 : Int32} {r : Int32 × Me} (hyp : L_closest M v1 = some r) : ab_Met y_L_closest rm_L_closest [.ref 0, .int v1, .ref 36] (lay M) (.ok (some (.int r.1))) (lay r.2) := by
  refine ab_startH rfl rfl (Nat.le_of_ble_eq_true rfl) (fun l D B ad => ?_)
  show ab_V _ ad 0 [(0, .ref 0), (1, .int v1), (2, .ref 36)] [] _ 0 0
  unfold L_closest at hyp
  refine ab_aload_n 1 d_L_closest_0 rfl ?_
  refine ab_iconst 2 d_L_closest_1 (0 : Int32) (by decide) ?_
  refine ab_aload_n 3 d_L_closest_2 rfl ?_
  refine ab_iload_n 4 d_L_closest_3 rfl ?_
  rcases ab_thrP_cases hyp with ⟨r2, hc1, hyp⟩ | ⟨E3, hc1, hyp⟩
  · refine ab_callV (h' := lay M) 7 1 6 [.int ((0 : Int32)), .ref 36] [.int r2, .int ((0 : Int32)), .ref 36] d_L_closest_4 ok_H_closest lk_81 (c_H_closest hc1) rfl rfl ?_
    refine ab_i2l 8 d_L_closest_7 ?_
    obtain ⟨g4, hyp⟩ := ab_gd hyp
    refine ab_lst 7 1 9 d_L_closest_8 rfl g4 lay_L7 ?_
    refine ab_goto 15 d_L_closest_9 ?_
    refine ab_iconst 16 d_L_closest_15 (0 : Int32) (by decide) ?_
    cases hyp
    exact ab_ireturn d_L_closest_16 rfl rfl rfl (Nat.le_of_ble_eq_true rfl) (Nat.le_of_ble_eq_true rfl)
  · by_cases z5 : E3 = "java/util/NoSuchElementException"
    · replace hyp := ab_pos z5 hyp
      subst z5
      refine ab_callVX (h' := lay M) 1 6 [.int ((0 : Int32)), .ref 36] d_L_closest_4 ok_H_closest lk_81 (c_H_closest hc1) rfl rfl ?_
      refine ab_catch_n 0 13 [(0, _), (1, _), (2, _)] rfl ce_22 d_L_closest_12 rfl ?_
      refine ab_iconst 14 d_L_closest_13 (1 : Int32) (by decide) ?_
      cases hyp
      exact ab_ireturn d_L_closest_14 rfl rfl rfl (Nat.le_of_ble_eq_true rfl) (Nat.le_of_ble_eq_true rfl)
    · replace hyp := ab_neg z5 hyp
      cases hyp
/-! L_bestBull -/
def L_bestBull (M : Me) (v1 : Int32) : Option (Int32 × Me) :=
  ab_thrP (H_bestBull M v1) (fun r2 => gd (inb (0 : Int32) 1) (some ((0 : Int32), (sL M 7 (0 : Int32) r2.toInt64)))) (fun E3 => if E3 = "java/util/NoSuchElementException" then (some ((1 : Int32), M)) else (none))
def rm_L_bestBull : Room := { frames := 8, locals := 126, cells := 1, slots := 6 }
theorem c_L_bestBull {M : Me} {v1 : Int32} {r : Int32 × Me} (hyp : L_bestBull M v1 = some r) : ab_Met y_L_bestBull rm_L_bestBull [.ref 0, .int v1, .ref 36] (lay M) (.ok (some (.int r.1))) (lay r.2) := by
  refine ab_startH rfl rfl (Nat.le_of_ble_eq_true rfl) (fun l D B ad => ?_)
  show ab_V _ ad 0 [(0, .ref 0), (1, .int v1), (2, .ref 36)] [] _ 0 0
  unfold L_bestBull at hyp
  refine ab_aload_n 1 d_L_bestBull_0 rfl ?_
  refine ab_iconst 2 d_L_bestBull_1 (0 : Int32) (by decide) ?_
  refine ab_aload_n 3 d_L_bestBull_2 rfl ?_
  refine ab_iload_n 4 d_L_bestBull_3 rfl ?_
  rcases ab_thrP_cases hyp with ⟨r2, hc1, hyp⟩ | ⟨E3, hc1, hyp⟩
  · refine ab_callV (h' := lay M) 7 1 6 [.int ((0 : Int32)), .ref 36] [.int r2, .int ((0 : Int32)), .ref 36] d_L_bestBull_4 ok_H_bestBull lk_82 (c_H_bestBull hc1) rfl rfl ?_
    refine ab_i2l 8 d_L_bestBull_7 ?_
    obtain ⟨g4, hyp⟩ := ab_gd hyp
    refine ab_lst 7 1 9 d_L_bestBull_8 rfl g4 lay_L7 ?_
    refine ab_goto 15 d_L_bestBull_9 ?_
    refine ab_iconst 16 d_L_bestBull_15 (0 : Int32) (by decide) ?_
    cases hyp
    exact ab_ireturn d_L_bestBull_16 rfl rfl rfl (Nat.le_of_ble_eq_true rfl) (Nat.le_of_ble_eq_true rfl)
  · by_cases z5 : E3 = "java/util/NoSuchElementException"
    · replace hyp := ab_pos z5 hyp
      subst z5
      refine ab_callVX (h' := lay M) 1 6 [.int ((0 : Int32)), .ref 36] d_L_bestBull_4 ok_H_bestBull lk_82 (c_H_bestBull hc1) rfl rfl ?_
      refine ab_catch_n 0 13 [(0, _), (1, _), (2, _)] rfl ce_23 d_L_bestBull_12 rfl ?_
      refine ab_iconst 14 d_L_bestBull_13 (1 : Int32) (by decide) ?_
      cases hyp
      exact ab_ireturn d_L_bestBull_14 rfl rfl rfl (Nat.le_of_ble_eq_true rfl) (Nat.le_of_ble_eq_true rfl)
    · replace hyp := ab_neg z5 hyp
      cases hyp
/-! L_plan -/
def L_plan (M : Me) (v1 : Int32) (v2 : Int32) (v3 : Int64) : Option (Int32 × Me) :=
  ab_thrW (H_plan M v1 v2 v3) (fun r2 M4 => gd (inb (0 : Int32) 1) (some ((0 : Int32), (sL M4 7 (0 : Int32) r2)))) (fun E3 M4 => if E3 = "java/lang/IllegalArgumentException" then (some ((1 : Int32), M4)) else (if E3 = "java/util/NoSuchElementException" then (some ((2 : Int32), M4)) else (if E3 = "java/lang/UnsupportedOperationException" then (some ((3 : Int32), M4)) else (none))))
def rm_L_plan : Room := { frames := 8, locals := 129, cells := 1, slots := 6 }
theorem c_L_plan {M : Me} {v1 : Int32} {v2 : Int32} {v3 : Int64} {r : Int32 × Me} (hyp : L_plan M v1 v2 v3 = some r) : ab_Met y_L_plan rm_L_plan [.ref 0, .int v1, .int v2, .long v3, .ref 36] (lay M) (.ok (some (.int r.1))) (lay r.2) := by
  refine ab_startH rfl rfl (Nat.le_of_ble_eq_true rfl) (fun l D B ad => ?_)
  show ab_V _ ad 0 [(0, .ref 0), (1, .int v1), (2, .int v2), (3, .long v3), (5, .ref 36)] [] _ 0 0
  unfold L_plan at hyp
  refine ab_aload 2 d_L_plan_0 rfl ?_
  refine ab_iconst 3 d_L_plan_2 (0 : Int32) (by decide) ?_
  refine ab_aload_n 4 d_L_plan_3 rfl ?_
  refine ab_iload_n 5 d_L_plan_4 rfl ?_
  refine ab_iload_n 6 d_L_plan_5 rfl ?_
  refine ab_lload_n 7 d_L_plan_6 rfl ?_
  rcases ab_thrW_cases hyp with ⟨r2, M4, hc1, hyp⟩ | ⟨E3, M4, hc1, hyp⟩
  · refine ab_callV (h' := lay M4) 10 1 6 [.int ((0 : Int32)), .ref 36] [.long r2, .int ((0 : Int32)), .ref 36] d_L_plan_7 ok_H_plan lk_83 (c_H_plan hc1) rfl rfl ?_
    obtain ⟨g5, hyp⟩ := ab_gd hyp
    refine ab_lst 7 1 11 d_L_plan_10 rfl g5 lay_L7 ?_
    refine ab_goto 26 d_L_plan_11 ?_
    refine ab_iconst 27 d_L_plan_26 (0 : Int32) (by decide) ?_
    cases hyp
    exact ab_ireturn d_L_plan_27 rfl rfl rfl (Nat.le_of_ble_eq_true rfl) (Nat.le_of_ble_eq_true rfl)
  · by_cases z8 : E3 = "java/lang/IllegalArgumentException"
    · replace hyp := ab_pos z8 hyp
      subst z8
      refine ab_callVX (h' := lay M4) 1 6 [.int ((0 : Int32)), .ref 36] d_L_plan_7 ok_H_plan lk_83 (c_H_plan hc1) rfl rfl ?_
      refine ab_catch 0 16 [(0, _), (1, _), (2, _), (3, _), (5, _)] rfl ce_26 d_L_plan_14 rfl ?_
      refine ab_iconst 17 d_L_plan_16 (1 : Int32) (by decide) ?_
      cases hyp
      exact ab_ireturn d_L_plan_17 rfl rfl rfl (Nat.le_of_ble_eq_true rfl) (Nat.le_of_ble_eq_true rfl)
    · replace hyp := ab_neg z8 hyp
      by_cases z7 : E3 = "java/util/NoSuchElementException"
      · replace hyp := ab_pos z7 hyp
        subst z7
        refine ab_callVX (h' := lay M4) 1 6 [.int ((0 : Int32)), .ref 36] d_L_plan_7 ok_H_plan lk_83 (c_H_plan hc1) rfl rfl ?_
        refine ab_catch 1 20 [(0, _), (1, _), (2, _), (3, _), (5, _)] rfl ce_25 d_L_plan_18 rfl ?_
        refine ab_iconst 21 d_L_plan_20 (2 : Int32) (by decide) ?_
        cases hyp
        exact ab_ireturn d_L_plan_21 rfl rfl rfl (Nat.le_of_ble_eq_true rfl) (Nat.le_of_ble_eq_true rfl)
      · replace hyp := ab_neg z7 hyp
        by_cases z6 : E3 = "java/lang/UnsupportedOperationException"
        · replace hyp := ab_pos z6 hyp
          subst z6
          refine ab_callVX (h' := lay M4) 1 6 [.int ((0 : Int32)), .ref 36] d_L_plan_7 ok_H_plan lk_83 (c_H_plan hc1) rfl rfl ?_
          refine ab_catch 2 24 [(0, _), (1, _), (2, _), (3, _), (5, _)] rfl ce_24 d_L_plan_22 rfl ?_
          refine ab_iconst 25 d_L_plan_24 (3 : Int32) (by decide) ?_
          cases hyp
          exact ab_ireturn d_L_plan_25 rfl rfl rfl (Nat.le_of_ble_eq_true rfl) (Nat.le_of_ble_eq_true rfl)
        · replace hyp := ab_neg z6 hyp
          cases hyp
/-! L_bull -/
def L_bull (M : Me) (v1 : Int32) : Option (Int32 × Me) :=
  ab_thrP (H_bull M v1) (fun r2 => gd (inb (0 : Int32) 1) (some ((0 : Int32), (sL M 7 (0 : Int32) r2.toInt64)))) (fun E3 => if E3 = "java/util/NoSuchElementException" then (some ((1 : Int32), M)) else (none))
def rm_L_bull : Room := { frames := 8, locals := 124, cells := 1, slots := 6 }
theorem c_L_bull {M : Me} {v1 : Int32} {r : Int32 × Me} (hyp : L_bull M v1 = some r) : ab_Met y_L_bull rm_L_bull [.ref 0, .int v1, .ref 36] (lay M) (.ok (some (.int r.1))) (lay r.2) := by
  refine ab_startH rfl rfl (Nat.le_of_ble_eq_true rfl) (fun l D B ad => ?_)
  show ab_V _ ad 0 [(0, .ref 0), (1, .int v1), (2, .ref 36)] [] _ 0 0
  unfold L_bull at hyp
  refine ab_aload_n 1 d_L_bull_0 rfl ?_
  refine ab_iconst 2 d_L_bull_1 (0 : Int32) (by decide) ?_
  refine ab_aload_n 3 d_L_bull_2 rfl ?_
  refine ab_iload_n 4 d_L_bull_3 rfl ?_
  rcases ab_thrP_cases hyp with ⟨r2, hc1, hyp⟩ | ⟨E3, hc1, hyp⟩
  · refine ab_callV (h' := lay M) 7 1 6 [.int ((0 : Int32)), .ref 36] [.int r2, .int ((0 : Int32)), .ref 36] d_L_bull_4 ok_H_bull lk_84 (c_H_bull hc1) rfl rfl ?_
    refine ab_i2l 8 d_L_bull_7 ?_
    obtain ⟨g4, hyp⟩ := ab_gd hyp
    refine ab_lst 7 1 9 d_L_bull_8 rfl g4 lay_L7 ?_
    refine ab_goto 15 d_L_bull_9 ?_
    refine ab_iconst 16 d_L_bull_15 (0 : Int32) (by decide) ?_
    cases hyp
    exact ab_ireturn d_L_bull_16 rfl rfl rfl (Nat.le_of_ble_eq_true rfl) (Nat.le_of_ble_eq_true rfl)
  · by_cases z5 : E3 = "java/util/NoSuchElementException"
    · replace hyp := ab_pos z5 hyp
      subst z5
      refine ab_callVX (h' := lay M) 1 6 [.int ((0 : Int32)), .ref 36] d_L_bull_4 ok_H_bull lk_84 (c_H_bull hc1) rfl rfl ?_
      refine ab_catch_n 0 13 [(0, _), (1, _), (2, _)] rfl ce_27 d_L_bull_12 rfl ?_
      refine ab_iconst 14 d_L_bull_13 (1 : Int32) (by decide) ?_
      cases hyp
      exact ab_ireturn d_L_bull_14 rfl rfl rfl (Nat.le_of_ble_eq_true rfl) (Nat.le_of_ble_eq_true rfl)
    · replace hyp := ab_neg z5 hyp
      cases hyp
