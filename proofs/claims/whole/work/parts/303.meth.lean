/-! H_share -/
def H_share (M : Me) (v1 : Int32) (v2 : Int32) : Option (Except String Int64 × Me) :=
  ab_thrP (H_requireAnimal M v1) (fun r2 => ab_thrP (H_requireAnimal M v2) (fun r5 => ab_thrP (H_requireFounder M v1) (fun r8 => Option.bind (P_shareOf M v1 v2) (fun r11 => some (.ok r11.1, r11.2))) (fun E9 => some (.error E9, M))) (fun E6 => some (.error E6, M))) (fun E3 => some (.error E3, M))
def rm_H_share : Room := { frames := 7, locals := 103, cells := 3, slots := 18 }
theorem c_H_share {M : Me} {v1 : Int32} {v2 : Int32} {r : Except String Int64 × Me} (hyp : H_share M v1 v2 = some r) : ab_Met y_H_share rm_H_share [.ref 0, .int v1, .int v2] (lay M) (Except.map (fun v => some (.long v)) r.1) (lay r.2) := by
  refine ab_start rfl rfl (Nat.le_of_ble_eq_true rfl) (fun l D B ad => ?_)
  show ab_V _ ad 0 [(0, .ref 0), (1, .int v1), (2, .int v2)] [] _ 0 0
  unfold H_share at hyp
  refine ab_aload_n 1 d_H_share_0 rfl ?_
  refine ab_iload_n 2 d_H_share_1 rfl ?_
  rcases ab_thrP_cases hyp with ⟨r2, hc1, hyp⟩ | ⟨E3, hc1, hyp⟩
  · refine ab_callV (h' := lay M) 5 1 6 [] [] d_H_share_2 ok_H_requireAnimal lk_2 (c_H_requireAnimal hc1) rfl rfl ?_
    refine ab_aload_n 6 d_H_share_5 rfl ?_
    refine ab_iload_n 7 d_H_share_6 rfl ?_
    rcases ab_thrP_cases hyp with ⟨r5, hc4, hyp⟩ | ⟨E6, hc4, hyp⟩
    · refine ab_callV (h' := lay M) 10 2 12 [] [] d_H_share_7 ok_H_requireAnimal lk_2 (c_H_requireAnimal hc4) rfl rfl ?_
      refine ab_aload_n 11 d_H_share_10 rfl ?_
      refine ab_iload_n 12 d_H_share_11 rfl ?_
      rcases ab_thrP_cases hyp with ⟨r8, hc7, hyp⟩ | ⟨E9, hc7, hyp⟩
      · refine ab_callV (h' := lay M) 15 3 18 [] [] d_H_share_12 ok_H_requireFounder lk_22 (c_H_requireFounder hc7) rfl rfl ?_
        refine ab_aload_n 16 d_H_share_15 rfl ?_
        refine ab_get 19 d_H_share_16 fd_1 rfl rfl ?_
        refine ab_iload_n 20 d_H_share_19 rfl ?_
        refine ab_iload_n 21 d_H_share_20 rfl ?_
        obtain ⟨r11, hc10, hyp⟩ := ab_bind hyp
        refine ab_callV (h' := lay r11.2) 24 3 18 [] [.long r11.1] d_H_share_21 ok_P_shareOf lk_23 (c_P_shareOf hc10) rfl rfl ?_
        cases hyp
        exact ab_lreturn d_H_share_24 rfl rfl rfl (Nat.le_of_ble_eq_true rfl) (Nat.le_of_ble_eq_true rfl)
      · cases hyp
        refine ab_callVX (h' := lay M) 3 18 [] d_H_share_12 ok_H_requireFounder lk_22 (c_H_requireFounder hc7) rfl rfl ?_
        exact ab_out rfl rfl rfl (Nat.le_of_ble_eq_true rfl) (Nat.le_of_ble_eq_true rfl)
    · cases hyp
      refine ab_callVX (h' := lay M) 2 12 [] d_H_share_7 ok_H_requireAnimal lk_2 (c_H_requireAnimal hc4) rfl rfl ?_
      exact ab_out rfl rfl rfl (Nat.le_of_ble_eq_true rfl) (Nat.le_of_ble_eq_true rfl)
  · cases hyp
    refine ab_callVX (h' := lay M) 1 6 [] d_H_share_2 ok_H_requireAnimal lk_2 (c_H_requireAnimal hc1) rfl rfl ?_
    exact ab_out rfl rfl rfl (Nat.le_of_ble_eq_true rfl) (Nat.le_of_ble_eq_true rfl)
/-! P_unknownIn -/
def P_unknownIn_b7 (rec7 : Int32 → Int64 → Int32 → Me → Option (Int64 × Me)) (v1 : Int32) (v2 : Int64) (v4 : Int32) (M : Me) : Option (Int64 × Me) :=
  if v1 < v4 then (some (v2, M)) else (Option.bind (P_isFounder M v4) (fun r3 => if r3 = (0 : Int32) then (rec7 v1 v2 (v4 + (1 : Int32)) M) else (Option.bind (P_shareOf M v4 v1) (fun r6 => rec7 v1 (v2 - r6.1) (v4 + (1 : Int32)) r6.2))))
def P_unknownIn_L7 : Nat → Int32 → Int64 → Int32 → Me → Option (Int64 × Me)
  | 0, _, _, _, _ => none
  | F + 1, v1, v2, v4, M => P_unknownIn_b7 (P_unknownIn_L7 F) v1 v2 v4 M
def P_unknownIn (M : Me) (v1 : Int32) : Option (Int64 × Me) :=
  P_unknownIn_L7 64 v1 (1125899906842624 : Int64) (0 : Int32) M
def rm_P_unknownIn : Room := { frames := 2, locals := 45, cells := 0, slots := 0 }
theorem q_P_unknownIn_b7 {l : Launch} {D : va_G} {B : Nat} {ad : Nat → Nat} {r : Int64 × Me} (rec7 : Int32 → Int64 → Int32 → Me → Option (Int64 × Me)) (hrec7 : ∀ (v1 : Int32) (v2 : Int64) (v4 : Int32) (M : Me) , rec7 v1 v2 v4 M = some r → ab_V (ab_km l D B ad y_P_unknownIn rm_P_unknownIn (.ok (some (.long r.1))) (lay r.2)) ad 7 [(0, .ref 1), (1, .int v1), (2, .long v2), (4, .int v4)] [] (lay M) 0 0) (v1 : Int32) (v2 : Int64) (v4 : Int32) (M : Me) (hyp : P_unknownIn_b7 rec7 v1 v2 v4 M = some r) : ab_V (ab_km l D B ad y_P_unknownIn rm_P_unknownIn (.ok (some (.long r.1))) (lay r.2)) ad 7 [(0, .ref 1), (1, .int v1), (2, .long v2), (4, .int v4)] [] (lay M) 0 0 := by
  unfold P_unknownIn_b7 at hyp
  refine ab_iload 9 d_P_unknownIn_7 rfl ?_
  refine ab_iload_n 10 d_P_unknownIn_9 rfl ?_
  refine ab_ic_gt 38 13 d_P_unknownIn_10 (fun z1 => ?_) (fun z1 => ?_)
  · replace hyp := ab_pos z1 hyp
    refine ab_lload_n 39 d_P_unknownIn_38 rfl ?_
    cases hyp
    exact ab_lreturn d_P_unknownIn_39 rfl rfl rfl (Nat.le_of_ble_eq_true rfl) (Nat.le_of_ble_eq_true rfl)
  · replace hyp := ab_neg z1 hyp
    refine ab_aload_n 14 d_P_unknownIn_13 rfl ?_
    refine ab_iload 16 d_P_unknownIn_14 rfl ?_
    obtain ⟨r3, hc2, hyp⟩ := ab_bind hyp
    refine ab_callV (h' := lay M) 19 0 0 [] [.int r3] d_P_unknownIn_16 ok_P_isFounder lk_4 (c_P_isFounder hc2) rfl rfl ?_
    refine ab_if_eq 32 22 d_P_unknownIn_19 (fun z4 => ?_) (fun z4 => ?_)
    · replace hyp := ab_pos z4 hyp
      refine ab_iinc 35 [(4, _), (0, _), (1, _), (2, _)] d_P_unknownIn_32 (1 : Int32) (by decide) rfl rfl ?_
      refine ab_goto 7 d_P_unknownIn_35 ?_
      refine ab_pick [1, 2, 3, 0] [(0, _), (1, _), (2, _), (4, _)] rfl ?_
      exact hrec7 v1 v2 (v4 + (1 : Int32)) M hyp
    · replace hyp := ab_neg z4 hyp
      refine ab_lload_n 23 d_P_unknownIn_22 rfl ?_
      refine ab_aload_n 24 d_P_unknownIn_23 rfl ?_
      refine ab_iload 26 d_P_unknownIn_24 rfl ?_
      refine ab_iload_n 27 d_P_unknownIn_26 rfl ?_
      obtain ⟨r6, hc5, hyp⟩ := ab_bind hyp
      refine ab_callV (h' := lay r6.2) 30 0 0 [.long v2] [.long r6.1, .long v2] d_P_unknownIn_27 ok_P_shareOf lk_24 (c_P_shareOf hc5) rfl rfl ?_
      refine ab_lsub 31 d_P_unknownIn_30 ?_
      refine ab_lstore_n 32 [(2, _), (0, _), (1, _), (4, _)] d_P_unknownIn_31 rfl ?_
      refine ab_iinc 35 [(4, _), (2, _), (0, _), (1, _)] d_P_unknownIn_32 (1 : Int32) (by decide) rfl rfl ?_
      refine ab_goto 7 d_P_unknownIn_35 ?_
      refine ab_pick [2, 3, 1, 0] [(0, _), (1, _), (2, _), (4, _)] rfl ?_
      exact hrec7 v1 (v2 - r6.1) (v4 + (1 : Int32)) r6.2 hyp
theorem q_P_unknownIn_L7 {l : Launch} {D : va_G} {B : Nat} {ad : Nat → Nat} {r : Int64 × Me} : ∀ (F : Nat) (v1 : Int32) (v2 : Int64) (v4 : Int32) (M : Me) , P_unknownIn_L7 F v1 v2 v4 M = some r → ab_V (ab_km l D B ad y_P_unknownIn rm_P_unknownIn (.ok (some (.long r.1))) (lay r.2)) ad 7 [(0, .ref 1), (1, .int v1), (2, .long v2), (4, .int v4)] [] (lay M) 0 0 := by
  intro F
  induction F with
  | zero =>
    intro v1 v2 v4 M hyp
    have h2 : (none : Option (Int64 × Me)) = some r := hyp
    cases h2
  | succ F ih =>
    intro v1 v2 v4 M hyp
    exact q_P_unknownIn_b7 (P_unknownIn_L7 F) ih v1 v2 v4 M hyp
theorem c_P_unknownIn {M : Me} {v1 : Int32} {r : Int64 × Me} (hyp : P_unknownIn M v1 = some r) : ab_Met y_P_unknownIn rm_P_unknownIn [.ref 1, .int v1] (lay M) (.ok (some (.long r.1))) (lay r.2) := by
  refine ab_start rfl rfl (Nat.le_of_ble_eq_true rfl) (fun l D B ad => ?_)
  show ab_V _ ad 0 [(0, .ref 1), (1, .int v1)] [] _ 0 0
  unfold P_unknownIn at hyp
  refine ab_ldc2 (v := (1125899906842624 : Int64)) 3 d_P_unknownIn_0 w_0 ?_
  refine ab_lstore_n 4 [(2, _), (0, _), (1, _)] d_P_unknownIn_3 rfl ?_
  refine ab_iconst 5 d_P_unknownIn_4 (0 : Int32) (by decide) ?_
  refine ab_istore 7 [(4, _), (2, _), (0, _), (1, _)] d_P_unknownIn_5 rfl ?_
  refine ab_pick [2, 3, 1, 0] [(0, _), (1, _), (2, _), (4, _)] rfl ?_
  exact q_P_unknownIn_L7 64 v1 (1125899906842624 : Int64) (0 : Int32) M hyp
/-! H_unknown -/
def H_unknown (M : Me) (v1 : Int32) : Option (Except String Int64 × Me) :=
  ab_thrP (H_requireAnimal M v1) (fun r2 => Option.bind (P_unknownIn M v1) (fun r5 => some (.ok r5.1, r5.2))) (fun E3 => some (.error E3, M))
def rm_H_unknown : Room := { frames := 7, locals := 103, cells := 1, slots := 6 }
theorem c_H_unknown {M : Me} {v1 : Int32} {r : Except String Int64 × Me} (hyp : H_unknown M v1 = some r) : ab_Met y_H_unknown rm_H_unknown [.ref 0, .int v1] (lay M) (Except.map (fun v => some (.long v)) r.1) (lay r.2) := by
  refine ab_start rfl rfl (Nat.le_of_ble_eq_true rfl) (fun l D B ad => ?_)
  show ab_V _ ad 0 [(0, .ref 0), (1, .int v1)] [] _ 0 0
  unfold H_unknown at hyp
  refine ab_aload_n 1 d_H_unknown_0 rfl ?_
  refine ab_iload_n 2 d_H_unknown_1 rfl ?_
  rcases ab_thrP_cases hyp with ⟨r2, hc1, hyp⟩ | ⟨E3, hc1, hyp⟩
  · refine ab_callV (h' := lay M) 5 1 6 [] [] d_H_unknown_2 ok_H_requireAnimal lk_2 (c_H_requireAnimal hc1) rfl rfl ?_
    refine ab_aload_n 6 d_H_unknown_5 rfl ?_
    refine ab_get 9 d_H_unknown_6 fd_1 rfl rfl ?_
    refine ab_iload_n 10 d_H_unknown_9 rfl ?_
    obtain ⟨r5, hc4, hyp⟩ := ab_bind hyp
    refine ab_callV (h' := lay r5.2) 13 1 6 [] [.long r5.1] d_H_unknown_10 ok_P_unknownIn lk_25 (c_P_unknownIn hc4) rfl rfl ?_
    cases hyp
    exact ab_lreturn d_H_unknown_13 rfl rfl rfl (Nat.le_of_ble_eq_true rfl) (Nat.le_of_ble_eq_true rfl)
  · cases hyp
    refine ab_callVX (h' := lay M) 1 6 [] d_H_unknown_2 ok_H_requireAnimal lk_2 (c_H_requireAnimal hc1) rfl rfl ?_
    exact ab_out rfl rfl rfl (Nat.le_of_ble_eq_true rfl) (Nat.le_of_ble_eq_true rfl)
/-! H_inHerd -/
def H_inHerd_b15 (rec15 : Int32 → Int64 → Int32 → Me → Option (Except String Int64 × Me)) (v1 : Int32) (v2 : Int64) (v4 : Int32) (M : Me) : Option (Except String Int64 × Me) :=
  Option.bind (P_size M) (fun r2 => if r2 ≤ v4 then (some (.ok v2, M)) else (gd (inb v4 24) (if (gI M 7 v4) = (0 : Int32) then (rec15 v1 v2 (v4 + (1 : Int32)) M) else (Option.bind (P_shareOf M v1 v4) (fun r7 => rec15 v1 (v2 + r7.1) (v4 + (1 : Int32)) r7.2)))))
def H_inHerd_L15 : Nat → Int32 → Int64 → Int32 → Me → Option (Except String Int64 × Me)
  | 0, _, _, _, _ => none
  | F + 1, v1, v2, v4, M => H_inHerd_b15 (H_inHerd_L15 F) v1 v2 v4 M
def H_inHerd (M : Me) (v1 : Int32) : Option (Except String Int64 × Me) :=
  ab_thrP (H_requireAnimal M v1) (fun r2 => ab_thrP (H_requireFounder M v1) (fun r5 => H_inHerd_L15 64 v1 (0 : Int64) (0 : Int32) M) (fun E6 => some (.error E6, M))) (fun E3 => some (.error E3, M))
def rm_H_inHerd : Room := { frames := 7, locals := 103, cells := 2, slots := 12 }
theorem q_H_inHerd_b15 {l : Launch} {D : va_G} {B : Nat} {ad : Nat → Nat} {r : Except String Int64 × Me} (rec15 : Int32 → Int64 → Int32 → Me → Option (Except String Int64 × Me)) (hrec15 : ∀ (v1 : Int32) (v2 : Int64) (v4 : Int32) (M : Me) , rec15 v1 v2 v4 M = some r → ab_V (ab_km l D B ad y_H_inHerd rm_H_inHerd (Except.map (fun v => some (.long v)) r.1) (lay r.2)) ad 15 [(0, .ref 0), (1, .int v1), (2, .long v2), (4, .int v4)] [] (lay M) 2 12) (v1 : Int32) (v2 : Int64) (v4 : Int32) (M : Me) (hyp : H_inHerd_b15 rec15 v1 v2 v4 M = some r) : ab_V (ab_km l D B ad y_H_inHerd rm_H_inHerd (Except.map (fun v => some (.long v)) r.1) (lay r.2)) ad 15 [(0, .ref 0), (1, .int v1), (2, .long v2), (4, .int v4)] [] (lay M) 2 12 := by
  unfold H_inHerd_b15 at hyp
  refine ab_iload 17 d_H_inHerd_15 rfl ?_
  refine ab_aload_n 18 d_H_inHerd_17 rfl ?_
  refine ab_get 21 d_H_inHerd_18 fd_1 rfl rfl ?_
  obtain ⟨r2, hc1, hyp⟩ := ab_bind hyp
  refine ab_callV (h' := lay M) 24 2 12 [.int v4] [.int r2, .int v4] d_H_inHerd_21 ok_P_size lk_0 (c_P_size hc1) rfl rfl ?_
  refine ab_ic_ge 56 27 d_H_inHerd_24 (fun z3 => ?_) (fun z3 => ?_)
  · replace hyp := ab_pos z3 hyp
    refine ab_lload_n 57 d_H_inHerd_56 rfl ?_
    cases hyp
    exact ab_lreturn d_H_inHerd_57 rfl rfl rfl (Nat.le_of_ble_eq_true rfl) (Nat.le_of_ble_eq_true rfl)
  · replace hyp := ab_neg z3 hyp
    refine ab_aload_n 28 d_H_inHerd_27 rfl ?_
    refine ab_get 31 d_H_inHerd_28 fd_10 rfl rfl ?_
    refine ab_iload 33 d_H_inHerd_31 rfl ?_
    obtain ⟨g4, hyp⟩ := ab_gd hyp
    refine ab_zld 7 24 34 d_H_inHerd_33 rfl g4 ?_
    refine ab_if_eq 50 37 d_H_inHerd_34 (fun z5 => ?_) (fun z5 => ?_)
    · replace hyp := ab_pos z5 hyp
      refine ab_iinc 53 [(4, _), (0, _), (1, _), (2, _)] d_H_inHerd_50 (1 : Int32) (by decide) rfl rfl ?_
      refine ab_goto 15 d_H_inHerd_53 ?_
      refine ab_pick [1, 2, 3, 0] [(0, _), (1, _), (2, _), (4, _)] rfl ?_
      exact hrec15 v1 v2 (v4 + (1 : Int32)) M hyp
    · replace hyp := ab_neg z5 hyp
      refine ab_lload_n 38 d_H_inHerd_37 rfl ?_
      refine ab_aload_n 39 d_H_inHerd_38 rfl ?_
      refine ab_get 42 d_H_inHerd_39 fd_1 rfl rfl ?_
      refine ab_iload_n 43 d_H_inHerd_42 rfl ?_
      refine ab_iload 45 d_H_inHerd_43 rfl ?_
      obtain ⟨r7, hc6, hyp⟩ := ab_bind hyp
      refine ab_callV (h' := lay r7.2) 48 2 12 [.long v2] [.long r7.1, .long v2] d_H_inHerd_45 ok_P_shareOf lk_23 (c_P_shareOf hc6) rfl rfl ?_
      refine ab_ladd 49 d_H_inHerd_48 ?_
      refine ab_lstore_n 50 [(2, _), (0, _), (1, _), (4, _)] d_H_inHerd_49 rfl ?_
      refine ab_iinc 53 [(4, _), (2, _), (0, _), (1, _)] d_H_inHerd_50 (1 : Int32) (by decide) rfl rfl ?_
      refine ab_goto 15 d_H_inHerd_53 ?_
      refine ab_pick [2, 3, 1, 0] [(0, _), (1, _), (2, _), (4, _)] rfl ?_
      exact hrec15 v1 (v2 + r7.1) (v4 + (1 : Int32)) r7.2 hyp
theorem q_H_inHerd_L15 {l : Launch} {D : va_G} {B : Nat} {ad : Nat → Nat} {r : Except String Int64 × Me} : ∀ (F : Nat) (v1 : Int32) (v2 : Int64) (v4 : Int32) (M : Me) , H_inHerd_L15 F v1 v2 v4 M = some r → ab_V (ab_km l D B ad y_H_inHerd rm_H_inHerd (Except.map (fun v => some (.long v)) r.1) (lay r.2)) ad 15 [(0, .ref 0), (1, .int v1), (2, .long v2), (4, .int v4)] [] (lay M) 2 12 := by
  intro F
  induction F with
  | zero =>
    intro v1 v2 v4 M hyp
    have h2 : (none : Option (Except String Int64 × Me)) = some r := hyp
    cases h2
  | succ F ih =>
    intro v1 v2 v4 M hyp
    exact q_H_inHerd_b15 (H_inHerd_L15 F) ih v1 v2 v4 M hyp
theorem c_H_inHerd {M : Me} {v1 : Int32} {r : Except String Int64 × Me} (hyp : H_inHerd M v1 = some r) : ab_Met y_H_inHerd rm_H_inHerd [.ref 0, .int v1] (lay M) (Except.map (fun v => some (.long v)) r.1) (lay r.2) := by
  refine ab_start rfl rfl (Nat.le_of_ble_eq_true rfl) (fun l D B ad => ?_)
  show ab_V _ ad 0 [(0, .ref 0), (1, .int v1)] [] _ 0 0
  unfold H_inHerd at hyp
  refine ab_aload_n 1 d_H_inHerd_0 rfl ?_
  refine ab_iload_n 2 d_H_inHerd_1 rfl ?_
  rcases ab_thrP_cases hyp with ⟨r2, hc1, hyp⟩ | ⟨E3, hc1, hyp⟩
  · refine ab_callV (h' := lay M) 5 1 6 [] [] d_H_inHerd_2 ok_H_requireAnimal lk_2 (c_H_requireAnimal hc1) rfl rfl ?_
    refine ab_aload_n 6 d_H_inHerd_5 rfl ?_
    refine ab_iload_n 7 d_H_inHerd_6 rfl ?_
    rcases ab_thrP_cases hyp with ⟨r5, hc4, hyp⟩ | ⟨E6, hc4, hyp⟩
    · refine ab_callV (h' := lay M) 10 2 12 [] [] d_H_inHerd_7 ok_H_requireFounder lk_22 (c_H_requireFounder hc4) rfl rfl ?_
      refine ab_lconst 11 d_H_inHerd_10 (0 : Int64) (by decide) ?_
      refine ab_lstore_n 12 [(2, _), (0, _), (1, _)] d_H_inHerd_11 rfl ?_
      refine ab_iconst 13 d_H_inHerd_12 (0 : Int32) (by decide) ?_
      refine ab_istore 15 [(4, _), (2, _), (0, _), (1, _)] d_H_inHerd_13 rfl ?_
      refine ab_pick [2, 3, 1, 0] [(0, _), (1, _), (2, _), (4, _)] rfl ?_
      exact q_H_inHerd_L15 64 v1 (0 : Int64) (0 : Int32) M hyp
    · cases hyp
      refine ab_callVX (h' := lay M) 2 12 [] d_H_inHerd_7 ok_H_requireFounder lk_22 (c_H_requireFounder hc4) rfl rfl ?_
      exact ab_out rfl rfl rfl (Nat.le_of_ble_eq_true rfl) (Nat.le_of_ble_eq_true rfl)
  · cases hyp
    refine ab_callVX (h' := lay M) 1 6 [] d_H_inHerd_2 ok_H_requireAnimal lk_2 (c_H_requireAnimal hc1) rfl rfl ?_
    exact ab_out rfl rfl rfl (Nat.le_of_ble_eq_true rfl) (Nat.le_of_ble_eq_true rfl)
/-! H_kinWithLivingUpTo -/
def H_kinWithLivingUpTo_b5 (M : Me) (rec5 : Int32 → Int64 → Int32 → Option Int64) (v1 : Int32) (v2 : Int64) (v4 : Int32) : Option Int64 :=
  if v1 < v4 then (some v2) else (gd (inb v4 24) (if (gI M 7 v4) = (0 : Int32) then (rec5 v1 v2 (v4 + (1 : Int32))) else (Option.bind (P_kinOf M v4 v1) (fun r5 => rec5 v1 (v2 + r5) (v4 + (1 : Int32))))))
def H_kinWithLivingUpTo_L5 (M : Me) : Nat → Int32 → Int64 → Int32 → Option Int64
  | 0, _, _, _ => none
  | F + 1, v1, v2, v4 => H_kinWithLivingUpTo_b5 M (H_kinWithLivingUpTo_L5 M F) v1 v2 v4
def H_kinWithLivingUpTo (M : Me) (v1 : Int32) : Option Int64 :=
  H_kinWithLivingUpTo_L5 M 64 v1 (0 : Int64) (0 : Int32)
def rm_H_kinWithLivingUpTo : Room := { frames := 1, locals := 22, cells := 0, slots := 0 }
theorem q_H_kinWithLivingUpTo_b5 {l : Launch} {D : va_G} {B : Nat} {ad : Nat → Nat} {r : Int64} (M : Me) (rec5 : Int32 → Int64 → Int32 → Option Int64) (hrec5 : ∀ (v1 : Int32) (v2 : Int64) (v4 : Int32) , rec5 v1 v2 v4 = some r → ab_V (ab_km l D B ad y_H_kinWithLivingUpTo rm_H_kinWithLivingUpTo (.ok (some (.long r))) (lay M)) ad 5 [(0, .ref 0), (1, .int v1), (2, .long v2), (4, .int v4)] [] (lay M) 0 0) (v1 : Int32) (v2 : Int64) (v4 : Int32) (hyp : H_kinWithLivingUpTo_b5 M rec5 v1 v2 v4 = some r) : ab_V (ab_km l D B ad y_H_kinWithLivingUpTo rm_H_kinWithLivingUpTo (.ok (some (.long r))) (lay M)) ad 5 [(0, .ref 0), (1, .int v1), (2, .long v2), (4, .int v4)] [] (lay M) 0 0 := by
  unfold H_kinWithLivingUpTo_b5 at hyp
  refine ab_iload 7 d_H_kinWithLivingUpTo_5 rfl ?_
  refine ab_iload_n 8 d_H_kinWithLivingUpTo_7 rfl ?_
  refine ab_ic_gt 40 11 d_H_kinWithLivingUpTo_8 (fun z1 => ?_) (fun z1 => ?_)
  · replace hyp := ab_pos z1 hyp
    refine ab_lload_n 41 d_H_kinWithLivingUpTo_40 rfl ?_
    cases hyp
    exact ab_lreturn d_H_kinWithLivingUpTo_41 rfl rfl rfl (Nat.le_of_ble_eq_true rfl) (Nat.le_of_ble_eq_true rfl)
  · replace hyp := ab_neg z1 hyp
    refine ab_aload_n 12 d_H_kinWithLivingUpTo_11 rfl ?_
    refine ab_get 15 d_H_kinWithLivingUpTo_12 fd_10 rfl rfl ?_
    refine ab_iload 17 d_H_kinWithLivingUpTo_15 rfl ?_
    obtain ⟨g2, hyp⟩ := ab_gd hyp
    refine ab_zld 7 24 18 d_H_kinWithLivingUpTo_17 rfl g2 ?_
    refine ab_if_eq 34 21 d_H_kinWithLivingUpTo_18 (fun z3 => ?_) (fun z3 => ?_)
    · replace hyp := ab_pos z3 hyp
      refine ab_iinc 37 [(4, _), (0, _), (1, _), (2, _)] d_H_kinWithLivingUpTo_34 (1 : Int32) (by decide) rfl rfl ?_
      refine ab_goto 5 d_H_kinWithLivingUpTo_37 ?_
      refine ab_pick [1, 2, 3, 0] [(0, _), (1, _), (2, _), (4, _)] rfl ?_
      exact hrec5 v1 v2 (v4 + (1 : Int32)) hyp
    · replace hyp := ab_neg z3 hyp
      refine ab_lload_n 22 d_H_kinWithLivingUpTo_21 rfl ?_
      refine ab_aload_n 23 d_H_kinWithLivingUpTo_22 rfl ?_
      refine ab_get 26 d_H_kinWithLivingUpTo_23 fd_1 rfl rfl ?_
      refine ab_iload 28 d_H_kinWithLivingUpTo_26 rfl ?_
      refine ab_iload_n 29 d_H_kinWithLivingUpTo_28 rfl ?_
      obtain ⟨r5, hc4, hyp⟩ := ab_bind hyp
      refine ab_callV (h' := lay M) 32 0 0 [.long v2] [.long r5, .long v2] d_H_kinWithLivingUpTo_29 ok_P_kinOf lk_18 (c_P_kinOf hc4) rfl rfl ?_
      refine ab_ladd 33 d_H_kinWithLivingUpTo_32 ?_
      refine ab_lstore_n 34 [(2, _), (0, _), (1, _), (4, _)] d_H_kinWithLivingUpTo_33 rfl ?_
      refine ab_iinc 37 [(4, _), (2, _), (0, _), (1, _)] d_H_kinWithLivingUpTo_34 (1 : Int32) (by decide) rfl rfl ?_
      refine ab_goto 5 d_H_kinWithLivingUpTo_37 ?_
      refine ab_pick [2, 3, 1, 0] [(0, _), (1, _), (2, _), (4, _)] rfl ?_
      exact hrec5 v1 (v2 + r5) (v4 + (1 : Int32)) hyp
theorem q_H_kinWithLivingUpTo_L5 {l : Launch} {D : va_G} {B : Nat} {ad : Nat → Nat} {r : Int64} (M : Me) : ∀ (F : Nat) (v1 : Int32) (v2 : Int64) (v4 : Int32) , H_kinWithLivingUpTo_L5 M F v1 v2 v4 = some r → ab_V (ab_km l D B ad y_H_kinWithLivingUpTo rm_H_kinWithLivingUpTo (.ok (some (.long r))) (lay M)) ad 5 [(0, .ref 0), (1, .int v1), (2, .long v2), (4, .int v4)] [] (lay M) 0 0 := by
  intro F
  induction F with
  | zero =>
    intro v1 v2 v4 hyp
    have h2 : (none : Option Int64) = some r := hyp
    cases h2
  | succ F ih =>
    intro v1 v2 v4 hyp
    exact q_H_kinWithLivingUpTo_b5 M (H_kinWithLivingUpTo_L5 M F) ih v1 v2 v4 hyp
theorem c_H_kinWithLivingUpTo {M : Me} {v1 : Int32} {r : Int64} (hyp : H_kinWithLivingUpTo M v1 = some r) : ab_Met y_H_kinWithLivingUpTo rm_H_kinWithLivingUpTo [.ref 0, .int v1] (lay M) (.ok (some (.long r))) (lay M) := by
  refine ab_start rfl rfl (Nat.le_of_ble_eq_true rfl) (fun l D B ad => ?_)
  show ab_V _ ad 0 [(0, .ref 0), (1, .int v1)] [] _ 0 0
  unfold H_kinWithLivingUpTo at hyp
  refine ab_lconst 1 d_H_kinWithLivingUpTo_0 (0 : Int64) (by decide) ?_
  refine ab_lstore_n 2 [(2, _), (0, _), (1, _)] d_H_kinWithLivingUpTo_1 rfl ?_
  refine ab_iconst 3 d_H_kinWithLivingUpTo_2 (0 : Int32) (by decide) ?_
  refine ab_istore 5 [(4, _), (2, _), (0, _), (1, _)] d_H_kinWithLivingUpTo_3 rfl ?_
  refine ab_pick [2, 3, 1, 0] [(0, _), (1, _), (2, _), (4, _)] rfl ?_
  exact q_H_kinWithLivingUpTo_L5 M 64 v1 (0 : Int64) (0 : Int32) hyp
/-! H_herd -/
def H_herd_b4 (M : Me) (rec4 : Int64 → Int32 → Option Int64) (v1 : Int64) (v3 : Int32) : Option Int64 :=
  Option.bind (P_size M) (fun r2 => if r2 ≤ v3 then (some v1) else (gd (inb v3 24) (if (gI M 7 v3) = (0 : Int32) then (rec4 v1 (v3 + (1 : Int32))) else (Option.bind (H_kinWithLivingUpTo M v3) (fun r7 => rec4 (v1 + r7) (v3 + (1 : Int32)))))))
def H_herd_L4 (M : Me) : Nat → Int64 → Int32 → Option Int64
  | 0, _, _ => none
  | F + 1, v1, v3 => H_herd_b4 M (H_herd_L4 M F) v1 v3
def H_herd (M : Me) : Option Int64 :=
  H_herd_L4 M 64 (0 : Int64) (0 : Int32)
def rm_H_herd : Room := { frames := 2, locals := 46, cells := 0, slots := 0 }
theorem q_H_herd_b4 {l : Launch} {D : va_G} {B : Nat} {ad : Nat → Nat} {r : Int64} (M : Me) (rec4 : Int64 → Int32 → Option Int64) (hrec4 : ∀ (v1 : Int64) (v3 : Int32) , rec4 v1 v3 = some r → ab_V (ab_km l D B ad y_H_herd rm_H_herd (.ok (some (.long r))) (lay M)) ad 4 [(0, .ref 0), (1, .long v1), (3, .int v3)] [] (lay M) 0 0) (v1 : Int64) (v3 : Int32) (hyp : H_herd_b4 M rec4 v1 v3 = some r) : ab_V (ab_km l D B ad y_H_herd rm_H_herd (.ok (some (.long r))) (lay M)) ad 4 [(0, .ref 0), (1, .long v1), (3, .int v3)] [] (lay M) 0 0 := by
  unfold H_herd_b4 at hyp
  refine ab_iload_n 5 d_H_herd_4 rfl ?_
  refine ab_aload_n 6 d_H_herd_5 rfl ?_
  refine ab_get 9 d_H_herd_6 fd_1 rfl rfl ?_
  obtain ⟨r2, hc1, hyp⟩ := ab_bind hyp
  refine ab_callV (h' := lay M) 12 0 0 [.int v3] [.int r2, .int v3] d_H_herd_9 ok_P_size lk_0 (c_P_size hc1) rfl rfl ?_
  refine ab_ic_ge 38 15 d_H_herd_12 (fun z3 => ?_) (fun z3 => ?_)
  · replace hyp := ab_pos z3 hyp
    refine ab_lload_n 39 d_H_herd_38 rfl ?_
    cases hyp
    exact ab_lreturn d_H_herd_39 rfl rfl rfl (Nat.le_of_ble_eq_true rfl) (Nat.le_of_ble_eq_true rfl)
  · replace hyp := ab_neg z3 hyp
    refine ab_aload_n 16 d_H_herd_15 rfl ?_
    refine ab_get 19 d_H_herd_16 fd_10 rfl rfl ?_
    refine ab_iload_n 20 d_H_herd_19 rfl ?_
    obtain ⟨g4, hyp⟩ := ab_gd hyp
    refine ab_zld 7 24 21 d_H_herd_20 rfl g4 ?_
    refine ab_if_eq 32 24 d_H_herd_21 (fun z5 => ?_) (fun z5 => ?_)
    · replace hyp := ab_pos z5 hyp
      refine ab_iinc 35 [(3, _), (0, _), (1, _)] d_H_herd_32 (1 : Int32) (by decide) rfl rfl ?_
      refine ab_goto 4 d_H_herd_35 ?_
      refine ab_pick [1, 2, 0] [(0, _), (1, _), (3, _)] rfl ?_
      exact hrec4 v1 (v3 + (1 : Int32)) hyp
    · replace hyp := ab_neg z5 hyp
      refine ab_lload_n 25 d_H_herd_24 rfl ?_
      refine ab_aload_n 26 d_H_herd_25 rfl ?_
      refine ab_iload_n 27 d_H_herd_26 rfl ?_
      obtain ⟨r7, hc6, hyp⟩ := ab_bind hyp
      refine ab_callV (h' := lay M) 30 0 0 [.long v1] [.long r7, .long v1] d_H_herd_27 ok_H_kinWithLivingUpTo lk_26 (c_H_kinWithLivingUpTo hc6) rfl rfl ?_
      refine ab_ladd 31 d_H_herd_30 ?_
      refine ab_lstore_n 32 [(1, _), (0, _), (3, _)] d_H_herd_31 rfl ?_
      refine ab_iinc 35 [(3, _), (1, _), (0, _)] d_H_herd_32 (1 : Int32) (by decide) rfl rfl ?_
      refine ab_goto 4 d_H_herd_35 ?_
      refine ab_pick [2, 1, 0] [(0, _), (1, _), (3, _)] rfl ?_
      exact hrec4 (v1 + r7) (v3 + (1 : Int32)) hyp
theorem q_H_herd_L4 {l : Launch} {D : va_G} {B : Nat} {ad : Nat → Nat} {r : Int64} (M : Me) : ∀ (F : Nat) (v1 : Int64) (v3 : Int32) , H_herd_L4 M F v1 v3 = some r → ab_V (ab_km l D B ad y_H_herd rm_H_herd (.ok (some (.long r))) (lay M)) ad 4 [(0, .ref 0), (1, .long v1), (3, .int v3)] [] (lay M) 0 0 := by
  intro F
  induction F with
  | zero =>
    intro v1 v3 hyp
    have h2 : (none : Option Int64) = some r := hyp
    cases h2
  | succ F ih =>
    intro v1 v3 hyp
    exact q_H_herd_b4 M (H_herd_L4 M F) ih v1 v3 hyp
theorem c_H_herd {M : Me} {r : Int64} (hyp : H_herd M = some r) : ab_Met y_H_herd rm_H_herd [.ref 0] (lay M) (.ok (some (.long r))) (lay M) := by
  refine ab_start rfl rfl (Nat.le_of_ble_eq_true rfl) (fun l D B ad => ?_)
  show ab_V _ ad 0 [(0, .ref 0)] [] _ 0 0
  unfold H_herd at hyp
  refine ab_lconst 1 d_H_herd_0 (0 : Int64) (by decide) ?_
  refine ab_lstore_n 2 [(1, _), (0, _)] d_H_herd_1 rfl ?_
  refine ab_iconst 3 d_H_herd_2 (0 : Int32) (by decide) ?_
  refine ab_istore_n 4 [(3, _), (1, _), (0, _)] d_H_herd_3 rfl ?_
  refine ab_pick [2, 1, 0] [(0, _), (1, _), (3, _)] rfl ?_
  exact q_H_herd_L4 M 64 (0 : Int64) (0 : Int32) hyp
/-! P_forebearsOf -/
def P_forebearsOf (M : Me) (v1 : Int32) : Option Int32 :=
  gd (inb v1 24) (some (gI M 3 v1))
def rm_P_forebearsOf : Room := { frames := 0, locals := 0, cells := 0, slots := 0 }
theorem c_P_forebearsOf {M : Me} {v1 : Int32} {r : Int32} (hyp : P_forebearsOf M v1 = some r) : ab_Met y_P_forebearsOf rm_P_forebearsOf [.ref 1, .int v1] (lay M) (.ok (some (.int r))) (lay M) := by
  refine ab_start rfl rfl (Nat.le_of_ble_eq_true rfl) (fun l D B ad => ?_)
  show ab_V _ ad 0 [(0, .ref 1), (1, .int v1)] [] _ 0 0
  unfold P_forebearsOf at hyp
  refine ab_aload_n 1 d_P_forebearsOf_0 rfl ?_
  refine ab_get 4 d_P_forebearsOf_1 fd_7 rfl rfl ?_
  refine ab_iload_n 5 d_P_forebearsOf_4 rfl ?_
  obtain ⟨g1, hyp⟩ := ab_gd hyp
  refine ab_ild 3 24 6 d_P_forebearsOf_5 rfl g1 ?_
  cases hyp
  exact ab_ireturn d_P_forebearsOf_6 rfl rfl rfl (Nat.le_of_ble_eq_true rfl) (Nat.le_of_ble_eq_true rfl)
/-! H_ancestors -/
def H_ancestors (M : Me) (v1 : Int32) : Option (Except String Int32) :=
  ab_thrP (H_requireAnimal M v1) (fun r2 => Option.bind (P_forebearsOf M v1) (fun r5 => some (.ok r5))) (fun E3 => some (.error E3))
def rm_H_ancestors : Room := { frames := 7, locals := 103, cells := 1, slots := 6 }
theorem c_H_ancestors {M : Me} {v1 : Int32} {r : Except String Int32} (hyp : H_ancestors M v1 = some r) : ab_Met y_H_ancestors rm_H_ancestors [.ref 0, .int v1] (lay M) (Except.map (fun v => some (.int v)) r) (lay M) := by
  refine ab_start rfl rfl (Nat.le_of_ble_eq_true rfl) (fun l D B ad => ?_)
  show ab_V _ ad 0 [(0, .ref 0), (1, .int v1)] [] _ 0 0
  unfold H_ancestors at hyp
  refine ab_aload_n 1 d_H_ancestors_0 rfl ?_
  refine ab_iload_n 2 d_H_ancestors_1 rfl ?_
  rcases ab_thrP_cases hyp with ⟨r2, hc1, hyp⟩ | ⟨E3, hc1, hyp⟩
  · refine ab_callV (h' := lay M) 5 1 6 [] [] d_H_ancestors_2 ok_H_requireAnimal lk_2 (c_H_requireAnimal hc1) rfl rfl ?_
    refine ab_aload_n 6 d_H_ancestors_5 rfl ?_
    refine ab_get 9 d_H_ancestors_6 fd_1 rfl rfl ?_
    refine ab_iload_n 10 d_H_ancestors_9 rfl ?_
    obtain ⟨r5, hc4, hyp⟩ := ab_bind hyp
    refine ab_callV (h' := lay M) 13 1 6 [] [.int r5] d_H_ancestors_10 ok_P_forebearsOf lk_27 (c_P_forebearsOf hc4) rfl rfl ?_
    cases hyp
    exact ab_ireturn d_H_ancestors_13 rfl rfl rfl (Nat.le_of_ble_eq_true rfl) (Nat.le_of_ble_eq_true rfl)
  · cases hyp
    refine ab_callVX (h' := lay M) 1 6 [] d_H_ancestors_2 ok_H_requireAnimal lk_2 (c_H_requireAnimal hc1) rfl rfl ?_
    exact ab_out rfl rfl rfl (Nat.le_of_ble_eq_true rfl) (Nat.le_of_ble_eq_true rfl)
/-! P_progenyOf -/
def P_progenyOf_b6 (M : Me) (rec6 : Int32 → Int32 → Int32 → Option Int32) (v1 : Int32) (v2 : Int32) (v3 : Int32) : Option Int32 :=
  if (gF M 0) ≤ v3 then (some v2) else (gd (inb v3 24) (if (((gI M 3 v3) >>> (v1 &&& 31)) &&& (1 : Int32)) = (0 : Int32) then (rec6 v1 v2 (v3 + (1 : Int32))) else (rec6 v1 (v2 ||| ((1 : Int32) <<< (v3 &&& 31))) (v3 + (1 : Int32)))))
def P_progenyOf_L6 (M : Me) : Nat → Int32 → Int32 → Int32 → Option Int32
  | 0, _, _, _ => none
  | F + 1, v1, v2, v3 => P_progenyOf_b6 M (P_progenyOf_L6 M F) v1 v2 v3
def P_progenyOf (M : Me) (v1 : Int32) : Option Int32 :=
  P_progenyOf_L6 M 64 v1 (0 : Int32) (v1 + (1 : Int32))
def rm_P_progenyOf : Room := { frames := 0, locals := 0, cells := 0, slots := 0 }
theorem q_P_progenyOf_b6 {l : Launch} {D : va_G} {B : Nat} {ad : Nat → Nat} {r : Int32} (M : Me) (rec6 : Int32 → Int32 → Int32 → Option Int32) (hrec6 : ∀ (v1 : Int32) (v2 : Int32) (v3 : Int32) , rec6 v1 v2 v3 = some r → ab_V (ab_km l D B ad y_P_progenyOf rm_P_progenyOf (.ok (some (.int r))) (lay M)) ad 6 [(0, .ref 1), (1, .int v1), (2, .int v2), (3, .int v3)] [] (lay M) 0 0) (v1 : Int32) (v2 : Int32) (v3 : Int32) (hyp : P_progenyOf_b6 M rec6 v1 v2 v3 = some r) : ab_V (ab_km l D B ad y_P_progenyOf rm_P_progenyOf (.ok (some (.int r))) (lay M)) ad 6 [(0, .ref 1), (1, .int v1), (2, .int v2), (3, .int v3)] [] (lay M) 0 0 := by
  unfold P_progenyOf_b6 at hyp
  refine ab_iload_n 7 d_P_progenyOf_6 rfl ?_
  refine ab_aload_n 8 d_P_progenyOf_7 rfl ?_
  refine ab_get 11 d_P_progenyOf_8 fd_0 rfl rfl ?_
  refine ab_ic_ge 39 14 d_P_progenyOf_11 (fun z1 => ?_) (fun z1 => ?_)
  · replace hyp := ab_pos z1 hyp
    refine ab_iload_n 40 d_P_progenyOf_39 rfl ?_
    cases hyp
    exact ab_ireturn d_P_progenyOf_40 rfl rfl rfl (Nat.le_of_ble_eq_true rfl) (Nat.le_of_ble_eq_true rfl)
  · replace hyp := ab_neg z1 hyp
    refine ab_aload_n 15 d_P_progenyOf_14 rfl ?_
    refine ab_get 18 d_P_progenyOf_15 fd_7 rfl rfl ?_
    refine ab_iload_n 19 d_P_progenyOf_18 rfl ?_
    obtain ⟨g2, hyp⟩ := ab_gd hyp
    refine ab_ild 3 24 20 d_P_progenyOf_19 rfl g2 ?_
    refine ab_iload_n 21 d_P_progenyOf_20 rfl ?_
    refine ab_ishr 22 d_P_progenyOf_21 ?_
    refine ab_iconst 23 d_P_progenyOf_22 (1 : Int32) (by decide) ?_
    refine ab_iand 24 d_P_progenyOf_23 ?_
    refine ab_if_eq 33 27 d_P_progenyOf_24 (fun z3 => ?_) (fun z3 => ?_)
    · replace hyp := ab_pos z3 hyp
      refine ab_iinc 36 [(3, _), (0, _), (1, _), (2, _)] d_P_progenyOf_33 (1 : Int32) (by decide) rfl rfl ?_
      refine ab_goto 6 d_P_progenyOf_36 ?_
      refine ab_pick [1, 2, 3, 0] [(0, _), (1, _), (2, _), (3, _)] rfl ?_
      exact hrec6 v1 v2 (v3 + (1 : Int32)) hyp
    · replace hyp := ab_neg z3 hyp
      refine ab_iload_n 28 d_P_progenyOf_27 rfl ?_
      refine ab_iconst 29 d_P_progenyOf_28 (1 : Int32) (by decide) ?_
      refine ab_iload_n 30 d_P_progenyOf_29 rfl ?_
      refine ab_ishl 31 d_P_progenyOf_30 ?_
      refine ab_ior 32 d_P_progenyOf_31 ?_
      refine ab_istore_n 33 [(2, _), (0, _), (1, _), (3, _)] d_P_progenyOf_32 rfl ?_
      refine ab_iinc 36 [(3, _), (2, _), (0, _), (1, _)] d_P_progenyOf_33 (1 : Int32) (by decide) rfl rfl ?_
      refine ab_goto 6 d_P_progenyOf_36 ?_
      refine ab_pick [2, 3, 1, 0] [(0, _), (1, _), (2, _), (3, _)] rfl ?_
      exact hrec6 v1 (v2 ||| ((1 : Int32) <<< (v3 &&& 31))) (v3 + (1 : Int32)) hyp
theorem q_P_progenyOf_L6 {l : Launch} {D : va_G} {B : Nat} {ad : Nat → Nat} {r : Int32} (M : Me) : ∀ (F : Nat) (v1 : Int32) (v2 : Int32) (v3 : Int32) , P_progenyOf_L6 M F v1 v2 v3 = some r → ab_V (ab_km l D B ad y_P_progenyOf rm_P_progenyOf (.ok (some (.int r))) (lay M)) ad 6 [(0, .ref 1), (1, .int v1), (2, .int v2), (3, .int v3)] [] (lay M) 0 0 := by
  intro F
  induction F with
  | zero =>
    intro v1 v2 v3 hyp
    have h2 : (none : Option Int32) = some r := hyp
    cases h2
  | succ F ih =>
    intro v1 v2 v3 hyp
    exact q_P_progenyOf_b6 M (P_progenyOf_L6 M F) ih v1 v2 v3 hyp
theorem c_P_progenyOf {M : Me} {v1 : Int32} {r : Int32} (hyp : P_progenyOf M v1 = some r) : ab_Met y_P_progenyOf rm_P_progenyOf [.ref 1, .int v1] (lay M) (.ok (some (.int r))) (lay M) := by
  refine ab_start rfl rfl (Nat.le_of_ble_eq_true rfl) (fun l D B ad => ?_)
  show ab_V _ ad 0 [(0, .ref 1), (1, .int v1)] [] _ 0 0
  unfold P_progenyOf at hyp
  refine ab_iconst 1 d_P_progenyOf_0 (0 : Int32) (by decide) ?_
  refine ab_istore_n 2 [(2, _), (0, _), (1, _)] d_P_progenyOf_1 rfl ?_
  refine ab_iload_n 3 d_P_progenyOf_2 rfl ?_
  refine ab_iconst 4 d_P_progenyOf_3 (1 : Int32) (by decide) ?_
  refine ab_iadd 5 d_P_progenyOf_4 ?_
  refine ab_istore_n 6 [(3, _), (2, _), (0, _), (1, _)] d_P_progenyOf_5 rfl ?_
  refine ab_pick [2, 3, 1, 0] [(0, _), (1, _), (2, _), (3, _)] rfl ?_
  exact q_P_progenyOf_L6 M 64 v1 (0 : Int32) (v1 + (1 : Int32)) hyp
/-! H_descendants -/
def H_descendants (M : Me) (v1 : Int32) : Option (Except String Int32) :=
  ab_thrP (H_requireAnimal M v1) (fun r2 => Option.bind (P_progenyOf M v1) (fun r5 => some (.ok r5))) (fun E3 => some (.error E3))
def rm_H_descendants : Room := { frames := 7, locals := 103, cells := 1, slots := 6 }
theorem c_H_descendants {M : Me} {v1 : Int32} {r : Except String Int32} (hyp : H_descendants M v1 = some r) : ab_Met y_H_descendants rm_H_descendants [.ref 0, .int v1] (lay M) (Except.map (fun v => some (.int v)) r) (lay M) := by
  refine ab_start rfl rfl (Nat.le_of_ble_eq_true rfl) (fun l D B ad => ?_)
  show ab_V _ ad 0 [(0, .ref 0), (1, .int v1)] [] _ 0 0
  unfold H_descendants at hyp
  refine ab_aload_n 1 d_H_descendants_0 rfl ?_
  refine ab_iload_n 2 d_H_descendants_1 rfl ?_
  rcases ab_thrP_cases hyp with ⟨r2, hc1, hyp⟩ | ⟨E3, hc1, hyp⟩
  · refine ab_callV (h' := lay M) 5 1 6 [] [] d_H_descendants_2 ok_H_requireAnimal lk_2 (c_H_requireAnimal hc1) rfl rfl ?_
    refine ab_aload_n 6 d_H_descendants_5 rfl ?_
    refine ab_get 9 d_H_descendants_6 fd_1 rfl rfl ?_
    refine ab_iload_n 10 d_H_descendants_9 rfl ?_
    obtain ⟨r5, hc4, hyp⟩ := ab_bind hyp
    refine ab_callV (h' := lay M) 13 1 6 [] [.int r5] d_H_descendants_10 ok_P_progenyOf lk_28 (c_P_progenyOf hc4) rfl rfl ?_
    cases hyp
    exact ab_ireturn d_H_descendants_13 rfl rfl rfl (Nat.le_of_ble_eq_true rfl) (Nat.le_of_ble_eq_true rfl)
  · cases hyp
    refine ab_callVX (h' := lay M) 1 6 [] d_H_descendants_2 ok_H_requireAnimal lk_2 (c_H_requireAnimal hc1) rfl rfl ?_
    exact ab_out rfl rfl rfl (Nat.le_of_ble_eq_true rfl) (Nat.le_of_ble_eq_true rfl)
/-! P_linesUpTo -/
def P_linesUpTo (M : Me) (v1 : Int32) (v2 : Int32) : Option Int32 :=
  if v1 ≤ v2 then (gd (inb v2 24) (some (gI M 4 v2))) else (some (0 : Int32))
def rm_P_linesUpTo : Room := { frames := 0, locals := 0, cells := 0, slots := 0 }
theorem c_P_linesUpTo {M : Me} {v1 : Int32} {v2 : Int32} {r : Int32} (hyp : P_linesUpTo M v1 v2 = some r) : ab_Met y_P_linesUpTo rm_P_linesUpTo [.ref 1, .int v1, .int v2] (lay M) (.ok (some (.int r))) (lay M) := by
  refine ab_start rfl rfl (Nat.le_of_ble_eq_true rfl) (fun l D B ad => ?_)
  show ab_V _ ad 0 [(0, .ref 1), (1, .int v1), (2, .int v2)] [] _ 0 0
  unfold P_linesUpTo at hyp
  refine ab_iload_n 1 d_P_linesUpTo_0 rfl ?_
  refine ab_iload_n 2 d_P_linesUpTo_1 rfl ?_
  refine ab_ic_ge 9 5 d_P_linesUpTo_2 (fun z1 => ?_) (fun z1 => ?_)
  · replace hyp := ab_pos z1 hyp
    refine ab_aload_n 10 d_P_linesUpTo_9 rfl ?_
    refine ab_get 13 d_P_linesUpTo_10 fd_12 rfl rfl ?_
    refine ab_iload_n 14 d_P_linesUpTo_13 rfl ?_
    obtain ⟨g2, hyp⟩ := ab_gd hyp
    refine ab_ild 4 24 15 d_P_linesUpTo_14 rfl g2 ?_
    cases hyp
    exact ab_ireturn d_P_linesUpTo_15 rfl rfl rfl (Nat.le_of_ble_eq_true rfl) (Nat.le_of_ble_eq_true rfl)
  · replace hyp := ab_neg z1 hyp
    refine ab_iconst 6 d_P_linesUpTo_5 (0 : Int32) (by decide) ?_
    refine ab_goto 15 d_P_linesUpTo_6 ?_
    cases hyp
    exact ab_ireturn d_P_linesUpTo_15 rfl rfl rfl (Nat.le_of_ble_eq_true rfl) (Nat.le_of_ble_eq_true rfl)
/-! P_linesDown -/
def P_linesDown_b2 (rec2 : Int32 → Int32 → Int32 → Me → Option (Int32 × Me)) (v1 : Int32) (v2 : Int32) (v3 : Int32) (M : Me) : Option (Int32 × Me) :=
  if v2 < v3 then (Option.bind (P_linesUpTo M v1 v2) (fun r3 => some (r3, M))) else (if v3 = v1 then (gd (inb v3 24) (rec2 v1 v2 (v3 + (1 : Int32)) (sI M 4 v3 (1 : Int32)))) else (gd (inb v3 24) (Option.bind (P_linesUpTo M v1 (gI M 0 v3)) (fun r7 => gd (inb v3 24) (Option.bind (P_linesUpTo M v1 (gI M 1 v3)) (fun r10 => gd (inb v3 24) (rec2 v1 v2 (v3 + (1 : Int32)) (sI M 4 v3 (r7 + r10)))))))))
def P_linesDown_L2 : Nat → Int32 → Int32 → Int32 → Me → Option (Int32 × Me)
  | 0, _, _, _, _ => none
  | F + 1, v1, v2, v3, M => P_linesDown_b2 (P_linesDown_L2 F) v1 v2 v3 M
def P_linesDown (M : Me) (v1 : Int32) (v2 : Int32) : Option (Int32 × Me) :=
  P_linesDown_L2 64 v1 v2 v1 M
def rm_P_linesDown : Room := { frames := 1, locals := 22, cells := 0, slots := 0 }
theorem q_P_linesDown_b2 {l : Launch} {D : va_G} {B : Nat} {ad : Nat → Nat} {r : Int32 × Me} (rec2 : Int32 → Int32 → Int32 → Me → Option (Int32 × Me)) (hrec2 : ∀ (v1 : Int32) (v2 : Int32) (v3 : Int32) (M : Me) , rec2 v1 v2 v3 M = some r → ab_V (ab_km l D B ad y_P_linesDown rm_P_linesDown (.ok (some (.int r.1))) (lay r.2)) ad 2 [(0, .ref 1), (1, .int v1), (2, .int v2), (3, .int v3)] [] (lay M) 0 0) (v1 : Int32) (v2 : Int32) (v3 : Int32) (M : Me) (hyp : P_linesDown_b2 rec2 v1 v2 v3 M = some r) : ab_V (ab_km l D B ad y_P_linesDown rm_P_linesDown (.ok (some (.int r.1))) (lay r.2)) ad 2 [(0, .ref 1), (1, .int v1), (2, .int v2), (3, .int v3)] [] (lay M) 0 0 := by
  unfold P_linesDown_b2 at hyp
  refine ab_iload_n 3 d_P_linesDown_2 rfl ?_
  refine ab_iload_n 4 d_P_linesDown_3 rfl ?_
  refine ab_ic_gt 51 7 d_P_linesDown_4 (fun z1 => ?_) (fun z1 => ?_)
  · replace hyp := ab_pos z1 hyp
    refine ab_aload_n 52 d_P_linesDown_51 rfl ?_
    refine ab_iload_n 53 d_P_linesDown_52 rfl ?_
    refine ab_iload_n 54 d_P_linesDown_53 rfl ?_
    obtain ⟨r3, hc2, hyp⟩ := ab_bind hyp
    refine ab_callV (h' := lay M) 57 0 0 [] [.int r3] d_P_linesDown_54 ok_P_linesUpTo lk_29 (c_P_linesUpTo hc2) rfl rfl ?_
    cases hyp
    exact ab_ireturn d_P_linesDown_57 rfl rfl rfl (Nat.le_of_ble_eq_true rfl) (Nat.le_of_ble_eq_true rfl)
  · replace hyp := ab_neg z1 hyp
    refine ab_aload_n 8 d_P_linesDown_7 rfl ?_
    refine ab_get 11 d_P_linesDown_8 fd_12 rfl rfl ?_
    refine ab_iload_n 12 d_P_linesDown_11 rfl ?_
    refine ab_iload_n 13 d_P_linesDown_12 rfl ?_
    refine ab_iload_n 14 d_P_linesDown_13 rfl ?_
    refine ab_ic_ne 21 17 d_P_linesDown_14 (fun z4 => ?_) (fun z4 => ?_)
    · replace hyp := ab_neg z4 hyp
      refine ab_aload_n 22 d_P_linesDown_21 rfl ?_
      refine ab_iload_n 23 d_P_linesDown_22 rfl ?_
      refine ab_aload_n 24 d_P_linesDown_23 rfl ?_
      refine ab_get 27 d_P_linesDown_24 fd_4 rfl rfl ?_
      refine ab_iload_n 28 d_P_linesDown_27 rfl ?_
      obtain ⟨g5, hyp⟩ := ab_gd hyp
      refine ab_ild 0 24 29 d_P_linesDown_28 rfl g5 ?_
      obtain ⟨r7, hc6, hyp⟩ := ab_bind hyp
      refine ab_callV (h' := lay M) 32 0 0 [.int v3, .ref 9] [.int r7, .int v3, .ref 9] d_P_linesDown_29 ok_P_linesUpTo lk_29 (c_P_linesUpTo hc6) rfl rfl ?_
      refine ab_aload_n 33 d_P_linesDown_32 rfl ?_
      refine ab_iload_n 34 d_P_linesDown_33 rfl ?_
      refine ab_aload_n 35 d_P_linesDown_34 rfl ?_
      refine ab_get 38 d_P_linesDown_35 fd_5 rfl rfl ?_
      refine ab_iload_n 39 d_P_linesDown_38 rfl ?_
      obtain ⟨g8, hyp⟩ := ab_gd hyp
      refine ab_ild 1 24 40 d_P_linesDown_39 rfl g8 ?_
      obtain ⟨r10, hc9, hyp⟩ := ab_bind hyp
      refine ab_callV (h' := lay M) 43 0 0 [.int r7, .int v3, .ref 9] [.int r10, .int r7, .int v3, .ref 9] d_P_linesDown_40 ok_P_linesUpTo lk_29 (c_P_linesUpTo hc9) rfl rfl ?_
      refine ab_iadd 44 d_P_linesDown_43 ?_
      obtain ⟨g11, hyp⟩ := ab_gd hyp
      refine ab_ist 4 24 45 d_P_linesDown_44 rfl g11 lay_I4 ?_
      refine ab_iinc 48 [(3, _), (0, _), (1, _), (2, _)] d_P_linesDown_45 (1 : Int32) (by decide) rfl rfl ?_
      refine ab_goto 2 d_P_linesDown_48 ?_
      refine ab_pick [1, 2, 3, 0] [(0, _), (1, _), (2, _), (3, _)] rfl ?_
      exact hrec2 v1 v2 (v3 + (1 : Int32)) (sI M 4 v3 (r7 + r10)) hyp
    · replace hyp := ab_pos z4 hyp
      refine ab_iconst 18 d_P_linesDown_17 (1 : Int32) (by decide) ?_
      refine ab_goto 44 d_P_linesDown_18 ?_
      obtain ⟨g12, hyp⟩ := ab_gd hyp
      refine ab_ist 4 24 45 d_P_linesDown_44 rfl g12 lay_I4 ?_
      refine ab_iinc 48 [(3, _), (0, _), (1, _), (2, _)] d_P_linesDown_45 (1 : Int32) (by decide) rfl rfl ?_
      refine ab_goto 2 d_P_linesDown_48 ?_
      refine ab_pick [1, 2, 3, 0] [(0, _), (1, _), (2, _), (3, _)] rfl ?_
      exact hrec2 v1 v2 (v3 + (1 : Int32)) (sI M 4 v3 (1 : Int32)) hyp
theorem q_P_linesDown_L2 {l : Launch} {D : va_G} {B : Nat} {ad : Nat → Nat} {r : Int32 × Me} : ∀ (F : Nat) (v1 : Int32) (v2 : Int32) (v3 : Int32) (M : Me) , P_linesDown_L2 F v1 v2 v3 M = some r → ab_V (ab_km l D B ad y_P_linesDown rm_P_linesDown (.ok (some (.int r.1))) (lay r.2)) ad 2 [(0, .ref 1), (1, .int v1), (2, .int v2), (3, .int v3)] [] (lay M) 0 0 := by
  intro F
  induction F with
  | zero =>
    intro v1 v2 v3 M hyp
    have h2 : (none : Option (Int32 × Me)) = some r := hyp
    cases h2
  | succ F ih =>
    intro v1 v2 v3 M hyp
    exact q_P_linesDown_b2 (P_linesDown_L2 F) ih v1 v2 v3 M hyp
theorem c_P_linesDown {M : Me} {v1 : Int32} {v2 : Int32} {r : Int32 × Me} (hyp : P_linesDown M v1 v2 = some r) : ab_Met y_P_linesDown rm_P_linesDown [.ref 1, .int v1, .int v2] (lay M) (.ok (some (.int r.1))) (lay r.2) := by
  refine ab_start rfl rfl (Nat.le_of_ble_eq_true rfl) (fun l D B ad => ?_)
  show ab_V _ ad 0 [(0, .ref 1), (1, .int v1), (2, .int v2)] [] _ 0 0
  unfold P_linesDown at hyp
  refine ab_iload_n 1 d_P_linesDown_0 rfl ?_
  refine ab_istore_n 2 [(3, _), (0, _), (1, _), (2, _)] d_P_linesDown_1 rfl ?_
  refine ab_pick [1, 2, 3, 0] [(0, _), (1, _), (2, _), (3, _)] rfl ?_
  exact q_P_linesDown_L2 64 v1 v2 v1 M hyp
/-! H_lines -/
def H_lines (M : Me) (v1 : Int32) (v2 : Int32) : Option (Except String Int32 × Me) :=
  ab_thrP (H_requireAnimal M v1) (fun r2 => ab_thrP (H_requireAnimal M v2) (fun r5 => Option.bind (P_linesDown M v1 v2) (fun r8 => some (.ok r8.1, r8.2))) (fun E6 => some (.error E6, M))) (fun E3 => some (.error E3, M))
def rm_H_lines : Room := { frames := 7, locals := 103, cells := 2, slots := 12 }
theorem c_H_lines {M : Me} {v1 : Int32} {v2 : Int32} {r : Except String Int32 × Me} (hyp : H_lines M v1 v2 = some r) : ab_Met y_H_lines rm_H_lines [.ref 0, .int v1, .int v2] (lay M) (Except.map (fun v => some (.int v)) r.1) (lay r.2) := by
  refine ab_start rfl rfl (Nat.le_of_ble_eq_true rfl) (fun l D B ad => ?_)
  show ab_V _ ad 0 [(0, .ref 0), (1, .int v1), (2, .int v2)] [] _ 0 0
  unfold H_lines at hyp
  refine ab_aload_n 1 d_H_lines_0 rfl ?_
  refine ab_iload_n 2 d_H_lines_1 rfl ?_
  rcases ab_thrP_cases hyp with ⟨r2, hc1, hyp⟩ | ⟨E3, hc1, hyp⟩
  · refine ab_callV (h' := lay M) 5 1 6 [] [] d_H_lines_2 ok_H_requireAnimal lk_2 (c_H_requireAnimal hc1) rfl rfl ?_
    refine ab_aload_n 6 d_H_lines_5 rfl ?_
    refine ab_iload_n 7 d_H_lines_6 rfl ?_
    rcases ab_thrP_cases hyp with ⟨r5, hc4, hyp⟩ | ⟨E6, hc4, hyp⟩
    · refine ab_callV (h' := lay M) 10 2 12 [] [] d_H_lines_7 ok_H_requireAnimal lk_2 (c_H_requireAnimal hc4) rfl rfl ?_
      refine ab_aload_n 11 d_H_lines_10 rfl ?_
      refine ab_get 14 d_H_lines_11 fd_1 rfl rfl ?_
      refine ab_iload_n 15 d_H_lines_14 rfl ?_
      refine ab_iload_n 16 d_H_lines_15 rfl ?_
      obtain ⟨r8, hc7, hyp⟩ := ab_bind hyp
      refine ab_callV (h' := lay r8.2) 19 2 12 [] [.int r8.1] d_H_lines_16 ok_P_linesDown lk_30 (c_P_linesDown hc7) rfl rfl ?_
      cases hyp
      exact ab_ireturn d_H_lines_19 rfl rfl rfl (Nat.le_of_ble_eq_true rfl) (Nat.le_of_ble_eq_true rfl)
    · cases hyp
      refine ab_callVX (h' := lay M) 2 12 [] d_H_lines_7 ok_H_requireAnimal lk_2 (c_H_requireAnimal hc4) rfl rfl ?_
      exact ab_out rfl rfl rfl (Nat.le_of_ble_eq_true rfl) (Nat.le_of_ble_eq_true rfl)
  · cases hyp
    refine ab_callVX (h' := lay M) 1 6 [] d_H_lines_2 ok_H_requireAnimal lk_2 (c_H_requireAnimal hc1) rfl rfl ?_
    exact ab_out rfl rfl rfl (Nat.le_of_ble_eq_true rfl) (Nat.le_of_ble_eq_true rfl)
