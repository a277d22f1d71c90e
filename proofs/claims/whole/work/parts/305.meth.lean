/-! B_allCows -/
def B_allCows (M : Me) : Option Int32 :=
  some (((1 : Int32) <<< ((gF M 2) &&& 31)) - (1 : Int32))
def rm_B_allCows : Room := { frames := 0, locals := 0, cells := 0, slots := 0 }
theorem c_B_allCows {M : Me} {r : Int32} (hyp : B_allCows M = some r) : ab_Met y_B_allCows rm_B_allCows [.ref 2] (lay M) (.ok (some (.int r))) (lay M) := by
  refine ab_start rfl rfl (Nat.le_of_ble_eq_true rfl) (fun l D B ad => ?_)
  show ab_V _ ad 0 [(0, .ref 2)] [] _ 0 0
  unfold B_allCows at hyp
  refine ab_iconst 1 d_B_allCows_0 (1 : Int32) (by decide) ?_
  refine ab_aload_n 2 d_B_allCows_1 rfl ?_
  refine ab_get 5 d_B_allCows_2 fd_13 rfl rfl ?_
  refine ab_ishl 6 d_B_allCows_5 ?_
  refine ab_iconst 7 d_B_allCows_6 (1 : Int32) (by decide) ?_
  refine ab_isub 8 d_B_allCows_7 ?_
  cases hyp
  exact ab_ireturn d_B_allCows_8 rfl rfl rfl (Nat.le_of_ble_eq_true rfl) (Nat.le_of_ble_eq_true rfl)
/-! B_sumOfKin -/
def B_sumOfKin_b6 (M : Me) (rec6 : Int32 → Int32 → Int64 → Int32 → Option Int64) (v1 : Int32) (v2 : Int32) (v4 : Int64) (v6 : Int32) : Option Int64 :=
  if (gF M 2) ≤ v6 then (some v4) else (if ((v1 >>> (v6 &&& 31)) &&& (1 : Int32)) = (0 : Int32) then (rec6 v1 v2 v4 (v6 + (1 : Int32))) else (gd (inb v6 5) (Option.bind (P_kinOf M (gI M 9 v6) v2) (fun r5 => if r5 ≤ (gG M 0) then (rec6 v1 v2 (v4 + r5) (v6 + (1 : Int32))) else (some (-1 : Int64))))))
def B_sumOfKin_L6 (M : Me) : Nat → Int32 → Int32 → Int64 → Int32 → Option Int64
  | 0, _, _, _, _ => none
  | F + 1, v1, v2, v4, v6 => B_sumOfKin_b6 M (B_sumOfKin_L6 M F) v1 v2 v4 v6
def B_sumOfKin (M : Me) (v1 : Int32) (v2 : Int32) : Option Int64 :=
  B_sumOfKin_L6 M 64 v1 v2 (0 : Int64) (0 : Int32)
def rm_B_sumOfKin : Room := { frames := 1, locals := 22, cells := 0, slots := 0 }
theorem q_B_sumOfKin_b6 {l : Launch} {D : va_G} {B : Nat} {ad : Nat → Nat} {r : Int64} (M : Me) (rec6 : Int32 → Int32 → Int64 → Int32 → Option Int64) (hrec6 : ∀ (v1 : Int32) (v2 : Int32) (v4 : Int64) (v6 : Int32) , rec6 v1 v2 v4 v6 = some r → ab_V (ab_km l D B ad y_B_sumOfKin rm_B_sumOfKin (.ok (some (.long r))) (lay M)) ad 6 [(0, .ref 2), (1, .int v1), (2, .int v2), (3, .ref 1), (4, .long v4), (6, .int v6)] [] (lay M) 0 0) (v1 : Int32) (v2 : Int32) (v4 : Int64) (v6 : Int32) (hyp : B_sumOfKin_b6 M rec6 v1 v2 v4 v6 = some r) : ab_V (ab_km l D B ad y_B_sumOfKin rm_B_sumOfKin (.ok (some (.long r))) (lay M)) ad 6 [(0, .ref 2), (1, .int v1), (2, .int v2), (3, .ref 1), (4, .long v4), (6, .int v6)] [] (lay M) 0 0 := by
  unfold B_sumOfKin_b6 at hyp
  refine ab_iload 8 d_B_sumOfKin_6 rfl ?_
  refine ab_aload_n 9 d_B_sumOfKin_8 rfl ?_
  refine ab_get 12 d_B_sumOfKin_9 fd_13 rfl rfl ?_
  refine ab_ic_ge 65 15 d_B_sumOfKin_12 (fun z1 => ?_) (fun z1 => ?_)
  · replace hyp := ab_pos z1 hyp
    refine ab_lload 67 d_B_sumOfKin_65 rfl ?_
    cases hyp
    exact ab_lreturn d_B_sumOfKin_67 rfl rfl rfl (Nat.le_of_ble_eq_true rfl) (Nat.le_of_ble_eq_true rfl)
  · replace hyp := ab_neg z1 hyp
    refine ab_iload_n 16 d_B_sumOfKin_15 rfl ?_
    refine ab_iload 18 d_B_sumOfKin_16 rfl ?_
    refine ab_ishr 19 d_B_sumOfKin_18 ?_
    refine ab_iconst 20 d_B_sumOfKin_19 (1 : Int32) (by decide) ?_
    refine ab_iand 21 d_B_sumOfKin_20 ?_
    refine ab_if_eq 59 24 d_B_sumOfKin_21 (fun z2 => ?_) (fun z2 => ?_)
    · replace hyp := ab_pos z2 hyp
      refine ab_iinc 62 [(6, _), (0, _), (1, _), (2, _), (3, _), (4, _)] d_B_sumOfKin_59 (1 : Int32) (by decide) rfl rfl ?_
      refine ab_goto 6 d_B_sumOfKin_62 ?_
      refine ab_pick [1, 2, 3, 4, 5, 0] [(0, _), (1, _), (2, _), (3, _), (4, _), (6, _)] rfl ?_
      exact hrec6 v1 v2 v4 (v6 + (1 : Int32)) hyp
    · replace hyp := ab_neg z2 hyp
      refine ab_aload_n 25 d_B_sumOfKin_24 rfl ?_
      refine ab_aload_n 26 d_B_sumOfKin_25 rfl ?_
      refine ab_get 29 d_B_sumOfKin_26 fd_14 rfl rfl ?_
      refine ab_iload 31 d_B_sumOfKin_29 rfl ?_
      obtain ⟨g3, hyp⟩ := ab_gd hyp
      refine ab_ild 9 5 32 d_B_sumOfKin_31 rfl g3 ?_
      refine ab_iload_n 33 d_B_sumOfKin_32 rfl ?_
      obtain ⟨r5, hc4, hyp⟩ := ab_bind hyp
      refine ab_callV (h' := lay M) 36 0 0 [] [.long r5] d_B_sumOfKin_33 ok_P_kinOf lk_34 (c_P_kinOf hc4) rfl rfl ?_
      refine ab_lstore 38 [(7, _), (0, _), (1, _), (2, _), (3, _), (4, _), (6, _)] d_B_sumOfKin_36 rfl ?_
      refine ab_lload 40 d_B_sumOfKin_38 rfl ?_
      refine ab_aload_n 41 d_B_sumOfKin_40 rfl ?_
      refine ab_get 44 d_B_sumOfKin_41 fd_17 rfl rfl ?_
      refine ab_lc_le 52 45 48 d_B_sumOfKin_44 d_B_sumOfKin_45 (fun z6 => ?_) (fun z6 => ?_)
      · replace hyp := ab_pos z6 hyp
        refine ab_lload 54 d_B_sumOfKin_52 rfl ?_
        refine ab_lload 56 d_B_sumOfKin_54 rfl ?_
        refine ab_ladd 57 d_B_sumOfKin_56 ?_
        refine ab_lstore 59 [(4, _), (7, _), (0, _), (1, _), (2, _), (3, _), (6, _)] d_B_sumOfKin_57 rfl ?_
        refine ab_iinc 62 [(6, _), (4, _), (7, _), (0, _), (1, _), (2, _), (3, _)] d_B_sumOfKin_59 (1 : Int32) (by decide) rfl rfl ?_
        refine ab_goto 6 d_B_sumOfKin_62 ?_
        refine ab_pick [3, 4, 5, 6, 1, 0] [(0, _), (1, _), (2, _), (3, _), (4, _), (6, _)] rfl ?_
        exact hrec6 v1 v2 (v4 + r5) (v6 + (1 : Int32)) hyp
      · replace hyp := ab_neg z6 hyp
        refine ab_ldc2 (v := (-1 : Int64)) 51 d_B_sumOfKin_48 w_5 ?_
        cases hyp
        exact ab_lreturn d_B_sumOfKin_51 rfl rfl rfl (Nat.le_of_ble_eq_true rfl) (Nat.le_of_ble_eq_true rfl)
theorem q_B_sumOfKin_L6 {l : Launch} {D : va_G} {B : Nat} {ad : Nat → Nat} {r : Int64} (M : Me) : ∀ (F : Nat) (v1 : Int32) (v2 : Int32) (v4 : Int64) (v6 : Int32) , B_sumOfKin_L6 M F v1 v2 v4 v6 = some r → ab_V (ab_km l D B ad y_B_sumOfKin rm_B_sumOfKin (.ok (some (.long r))) (lay M)) ad 6 [(0, .ref 2), (1, .int v1), (2, .int v2), (3, .ref 1), (4, .long v4), (6, .int v6)] [] (lay M) 0 0 := by
  intro F
  induction F with
  | zero =>
    intro v1 v2 v4 v6 hyp
    have h2 : (none : Option Int64) = some r := hyp
    cases h2
  | succ F ih =>
    intro v1 v2 v4 v6 hyp
    exact q_B_sumOfKin_b6 M (B_sumOfKin_L6 M F) ih v1 v2 v4 v6 hyp
theorem c_B_sumOfKin {M : Me} {v1 : Int32} {v2 : Int32} {r : Int64} (hyp : B_sumOfKin M v1 v2 = some r) : ab_Met y_B_sumOfKin rm_B_sumOfKin [.ref 2, .int v1, .int v2, .ref 1] (lay M) (.ok (some (.long r))) (lay M) := by
  refine ab_start rfl rfl (Nat.le_of_ble_eq_true rfl) (fun l D B ad => ?_)
  show ab_V _ ad 0 [(0, .ref 2), (1, .int v1), (2, .int v2), (3, .ref 1)] [] _ 0 0
  unfold B_sumOfKin at hyp
  refine ab_lconst 1 d_B_sumOfKin_0 (0 : Int64) (by decide) ?_
  refine ab_lstore 3 [(4, _), (0, _), (1, _), (2, _), (3, _)] d_B_sumOfKin_1 rfl ?_
  refine ab_iconst 4 d_B_sumOfKin_3 (0 : Int32) (by decide) ?_
  refine ab_istore 6 [(6, _), (4, _), (0, _), (1, _), (2, _), (3, _)] d_B_sumOfKin_4 rfl ?_
  refine ab_pick [2, 3, 4, 5, 1, 0] [(0, _), (1, _), (2, _), (3, _), (4, _), (6, _)] rfl ?_
  exact q_B_sumOfKin_L6 M 64 v1 v2 (0 : Int64) (0 : Int32) hyp
/-! B_shiftOf -/
def B_shiftOf (M : Me) (v0 : Int32) : Option Int32 :=
  some ((5 : Int32) * ((4 : Int32) - v0))
def rm_B_shiftOf : Room := { frames := 0, locals := 0, cells := 0, slots := 0 }
theorem c_B_shiftOf {M : Me} {v0 : Int32} {r : Int32} (hyp : B_shiftOf M v0 = some r) : ab_Met y_B_shiftOf rm_B_shiftOf [.int v0] (lay M) (.ok (some (.int r))) (lay M) := by
  refine ab_start rfl rfl (Nat.le_of_ble_eq_true rfl) (fun l D B ad => ?_)
  show ab_V _ ad 0 [(0, .int v0)] [] _ 0 0
  unfold B_shiftOf at hyp
  refine ab_iconst 1 d_B_shiftOf_0 (5 : Int32) (by decide) ?_
  refine ab_iconst 2 d_B_shiftOf_1 (4 : Int32) (by decide) ?_
  refine ab_iload_n 3 d_B_shiftOf_2 rfl ?_
  refine ab_isub 4 d_B_shiftOf_3 ?_
  refine ab_imul 5 d_B_shiftOf_4 ?_
  cases hyp
  exact ab_ireturn d_B_shiftOf_5 rfl rfl rfl (Nat.le_of_ble_eq_true rfl) (Nat.le_of_ble_eq_true rfl)
/-! B_codeOf -/
def B_codeOf_b5 (M : Me) (rec5 : Int32 → Int32 → Int32 → Int32 → Option Int32) (v1 : Int32) (v2 : Int32) (v3 : Int32) (v4 : Int32) : Option Int32 :=
  if (gF M 2) ≤ v4 then (some v3) else (if ((v1 >>> (v4 &&& 31)) &&& (1 : Int32)) = (0 : Int32) then (rec5 v1 v2 v3 (v4 + (1 : Int32))) else (Option.bind (B_shiftOf M v4) (fun r4 => rec5 v1 v2 (v3 ||| (v2 <<< (r4 &&& 31))) (v4 + (1 : Int32)))))
def B_codeOf_L5 (M : Me) : Nat → Int32 → Int32 → Int32 → Int32 → Option Int32
  | 0, _, _, _, _ => none
  | F + 1, v1, v2, v3, v4 => B_codeOf_b5 M (B_codeOf_L5 M F) v1 v2 v3 v4
def B_codeOf (M : Me) (v1 : Int32) (v2 : Int32) : Option Int32 :=
  B_codeOf_L5 M 64 v1 v2 (0 : Int32) (0 : Int32)
def rm_B_codeOf : Room := { frames := 1, locals := 20, cells := 0, slots := 0 }
theorem q_B_codeOf_b5 {l : Launch} {D : va_G} {B : Nat} {ad : Nat → Nat} {r : Int32} (M : Me) (rec5 : Int32 → Int32 → Int32 → Int32 → Option Int32) (hrec5 : ∀ (v1 : Int32) (v2 : Int32) (v3 : Int32) (v4 : Int32) , rec5 v1 v2 v3 v4 = some r → ab_V (ab_km l D B ad y_B_codeOf rm_B_codeOf (.ok (some (.int r))) (lay M)) ad 5 [(0, .ref 2), (1, .int v1), (2, .int v2), (3, .int v3), (4, .int v4)] [] (lay M) 0 0) (v1 : Int32) (v2 : Int32) (v3 : Int32) (v4 : Int32) (hyp : B_codeOf_b5 M rec5 v1 v2 v3 v4 = some r) : ab_V (ab_km l D B ad y_B_codeOf rm_B_codeOf (.ok (some (.int r))) (lay M)) ad 5 [(0, .ref 2), (1, .int v1), (2, .int v2), (3, .int v3), (4, .int v4)] [] (lay M) 0 0 := by
  unfold B_codeOf_b5 at hyp
  refine ab_iload 7 d_B_codeOf_5 rfl ?_
  refine ab_aload_n 8 d_B_codeOf_7 rfl ?_
  refine ab_get 11 d_B_codeOf_8 fd_13 rfl rfl ?_
  refine ab_ic_ge 39 14 d_B_codeOf_11 (fun z1 => ?_) (fun z1 => ?_)
  · replace hyp := ab_pos z1 hyp
    refine ab_iload_n 40 d_B_codeOf_39 rfl ?_
    cases hyp
    exact ab_ireturn d_B_codeOf_40 rfl rfl rfl (Nat.le_of_ble_eq_true rfl) (Nat.le_of_ble_eq_true rfl)
  · replace hyp := ab_neg z1 hyp
    refine ab_iload_n 15 d_B_codeOf_14 rfl ?_
    refine ab_iload 17 d_B_codeOf_15 rfl ?_
    refine ab_ishr 18 d_B_codeOf_17 ?_
    refine ab_iconst 19 d_B_codeOf_18 (1 : Int32) (by decide) ?_
    refine ab_iand 20 d_B_codeOf_19 ?_
    refine ab_if_eq 33 23 d_B_codeOf_20 (fun z2 => ?_) (fun z2 => ?_)
    · replace hyp := ab_pos z2 hyp
      refine ab_iinc 36 [(4, _), (0, _), (1, _), (2, _), (3, _)] d_B_codeOf_33 (1 : Int32) (by decide) rfl rfl ?_
      refine ab_goto 5 d_B_codeOf_36 ?_
      refine ab_pick [1, 2, 3, 4, 0] [(0, _), (1, _), (2, _), (3, _), (4, _)] rfl ?_
      exact hrec5 v1 v2 v3 (v4 + (1 : Int32)) hyp
    · replace hyp := ab_neg z2 hyp
      refine ab_iload_n 24 d_B_codeOf_23 rfl ?_
      refine ab_iload_n 25 d_B_codeOf_24 rfl ?_
      refine ab_iload 27 d_B_codeOf_25 rfl ?_
      obtain ⟨r4, hc3, hyp⟩ := ab_bind hyp
      refine ab_callS (h' := lay M) 30 0 0 [.int v2, .int v3] [.int r4, .int v2, .int v3] d_B_codeOf_27 ok_B_shiftOf lk_35 (c_B_shiftOf hc3) rfl ?_
      refine ab_ishl 31 d_B_codeOf_30 ?_
      refine ab_ior 32 d_B_codeOf_31 ?_
      refine ab_istore_n 33 [(3, _), (0, _), (1, _), (2, _), (4, _)] d_B_codeOf_32 rfl ?_
      refine ab_iinc 36 [(4, _), (3, _), (0, _), (1, _), (2, _)] d_B_codeOf_33 (1 : Int32) (by decide) rfl rfl ?_
      refine ab_goto 5 d_B_codeOf_36 ?_
      refine ab_pick [2, 3, 4, 1, 0] [(0, _), (1, _), (2, _), (3, _), (4, _)] rfl ?_
      exact hrec5 v1 v2 (v3 ||| (v2 <<< (r4 &&& 31))) (v4 + (1 : Int32)) hyp
theorem q_B_codeOf_L5 {l : Launch} {D : va_G} {B : Nat} {ad : Nat → Nat} {r : Int32} (M : Me) : ∀ (F : Nat) (v1 : Int32) (v2 : Int32) (v3 : Int32) (v4 : Int32) , B_codeOf_L5 M F v1 v2 v3 v4 = some r → ab_V (ab_km l D B ad y_B_codeOf rm_B_codeOf (.ok (some (.int r))) (lay M)) ad 5 [(0, .ref 2), (1, .int v1), (2, .int v2), (3, .int v3), (4, .int v4)] [] (lay M) 0 0 := by
  intro F
  induction F with
  | zero =>
    intro v1 v2 v3 v4 hyp
    have h2 : (none : Option Int32) = some r := hyp
    cases h2
  | succ F ih =>
    intro v1 v2 v3 v4 hyp
    exact q_B_codeOf_b5 M (B_codeOf_L5 M F) ih v1 v2 v3 v4 hyp
theorem c_B_codeOf {M : Me} {v1 : Int32} {v2 : Int32} {r : Int32} (hyp : B_codeOf M v1 v2 = some r) : ab_Met y_B_codeOf rm_B_codeOf [.ref 2, .int v1, .int v2] (lay M) (.ok (some (.int r))) (lay M) := by
  refine ab_start rfl rfl (Nat.le_of_ble_eq_true rfl) (fun l D B ad => ?_)
  show ab_V _ ad 0 [(0, .ref 2), (1, .int v1), (2, .int v2)] [] _ 0 0
  unfold B_codeOf at hyp
  refine ab_iconst 1 d_B_codeOf_0 (0 : Int32) (by decide) ?_
  refine ab_istore_n 2 [(3, _), (0, _), (1, _), (2, _)] d_B_codeOf_1 rfl ?_
  refine ab_iconst 3 d_B_codeOf_2 (0 : Int32) (by decide) ?_
  refine ab_istore 5 [(4, _), (3, _), (0, _), (1, _), (2, _)] d_B_codeOf_3 rfl ?_
  refine ab_pick [2, 3, 4, 1, 0] [(0, _), (1, _), (2, _), (3, _), (4, _)] rfl ?_
  exact q_B_codeOf_L5 M 64 v1 v2 (0 : Int32) (0 : Int32) hyp
/-! B_weighServices -/
def B_weighServices_c39 (rec2 : Int32 → Int32 → Me → Option Me) (v1 : Int32) (v3 : Int32) (s0 : Int64) (s1 : Int32) (M : Me) : Option Me :=
  gd (inb s1 32) (Option.bind (B_codeOf (sL M 3 s1 s0) v3 v1) (fun r3 => gd (inb v3 32) (rec2 v1 (v3 + (1 : Int32)) (sI (sL M 3 s1 s0) 11 v3 r3))))
def B_weighServices_b2 (rec2 : Int32 → Int32 → Me → Option Me) (v1 : Int32) (v3 : Int32) (M : Me) : Option Me :=
  Option.bind (B_allCows M) (fun r2 => if r2 < v3 then (some M) else (Option.bind (J_bitCount M v3) (fun r5 => if r5 ≤ (gF M 3) then (Option.bind (B_sumOfKin M v3 v1) (fun r8 => B_weighServices_c39 rec2 v1 v3 r8 v3 M)) else (B_weighServices_c39 rec2 v1 v3 (-1 : Int64) v3 M))))
def B_weighServices_L2 : Nat → Int32 → Int32 → Me → Option Me
  | 0, _, _, _ => none
  | F + 1, v1, v3, M => B_weighServices_b2 (B_weighServices_L2 F) v1 v3 M
def B_weighServices (M : Me) (v1 : Int32) : Option Me :=
  B_weighServices_L2 64 v1 (0 : Int32) M
def rm_B_weighServices : Room := { frames := 2, locals := 50, cells := 0, slots := 0 }
theorem q_B_weighServices_c39 {l : Launch} {D : va_G} {B : Nat} {ad : Nat → Nat} {r : Me} (rec2 : Int32 → Int32 → Me → Option Me) (hrec2 : ∀ (v1 : Int32) (v3 : Int32) (M : Me) , rec2 v1 v3 M = some r → ab_V (ab_km l D B ad y_B_weighServices rm_B_weighServices (.ok none) (lay r)) ad 2 [(0, .ref 2), (1, .int v1), (2, .ref 1), (3, .int v3)] [] (lay M) 0 0) (v1 : Int32) (v3 : Int32) (s0 : Int64) (s1 : Int32) (M : Me) (hyp : B_weighServices_c39 rec2 v1 v3 s0 s1 M = some r) : ab_V (ab_km l D B ad y_B_weighServices rm_B_weighServices (.ok none) (lay r)) ad 39 [(0, .ref 2), (1, .int v1), (2, .ref 1), (3, .int v3)] [.long s0, .int s1, .ref 32] (lay M) 0 0 := by
  unfold B_weighServices_c39 at hyp
  obtain ⟨g1, hyp⟩ := ab_gd hyp
  refine ab_lst 3 32 40 d_B_weighServices_39 rfl g1 lay_L3 ?_
  refine ab_aload_n 41 d_B_weighServices_40 rfl ?_
  refine ab_get 44 d_B_weighServices_41 fd_20 rfl rfl ?_
  refine ab_iload_n 45 d_B_weighServices_44 rfl ?_
  refine ab_aload_n 46 d_B_weighServices_45 rfl ?_
  refine ab_iload_n 47 d_B_weighServices_46 rfl ?_
  refine ab_iload_n 48 d_B_weighServices_47 rfl ?_
  obtain ⟨r3, hc2, hyp⟩ := ab_bind hyp
  refine ab_callV (h' := lay (sL M 3 s1 s0)) 51 0 0 [.int v3, .ref 16] [.int r3, .int v3, .ref 16] d_B_weighServices_48 ok_B_codeOf lk_39 (c_B_codeOf hc2) rfl rfl ?_
  obtain ⟨g4, hyp⟩ := ab_gd hyp
  refine ab_ist 11 32 52 d_B_weighServices_51 rfl g4 lay_I11 ?_
  refine ab_iinc 55 [(3, _), (0, _), (1, _), (2, _)] d_B_weighServices_52 (1 : Int32) (by decide) rfl rfl ?_
  refine ab_goto 2 d_B_weighServices_55 ?_
  refine ab_pick [1, 2, 3, 0] [(0, _), (1, _), (2, _), (3, _)] rfl ?_
  exact hrec2 v1 (v3 + (1 : Int32)) (sI (sL M 3 s1 s0) 11 v3 r3) hyp
theorem q_B_weighServices_b2 {l : Launch} {D : va_G} {B : Nat} {ad : Nat → Nat} {r : Me} (rec2 : Int32 → Int32 → Me → Option Me) (hrec2 : ∀ (v1 : Int32) (v3 : Int32) (M : Me) , rec2 v1 v3 M = some r → ab_V (ab_km l D B ad y_B_weighServices rm_B_weighServices (.ok none) (lay r)) ad 2 [(0, .ref 2), (1, .int v1), (2, .ref 1), (3, .int v3)] [] (lay M) 0 0) (v1 : Int32) (v3 : Int32) (M : Me) (hyp : B_weighServices_b2 rec2 v1 v3 M = some r) : ab_V (ab_km l D B ad y_B_weighServices rm_B_weighServices (.ok none) (lay r)) ad 2 [(0, .ref 2), (1, .int v1), (2, .ref 1), (3, .int v3)] [] (lay M) 0 0 := by
  unfold B_weighServices_b2 at hyp
  refine ab_iload_n 3 d_B_weighServices_2 rfl ?_
  refine ab_aload_n 4 d_B_weighServices_3 rfl ?_
  obtain ⟨r2, hc1, hyp⟩ := ab_bind hyp
  refine ab_callV (h' := lay M) 7 0 0 [.int v3] [.int r2, .int v3] d_B_weighServices_4 ok_B_allCows lk_36 (c_B_allCows hc1) rfl rfl ?_
  refine ab_ic_gt 58 10 d_B_weighServices_7 (fun z3 => ?_) (fun z3 => ?_)
  · replace hyp := ab_pos z3 hyp
    cases hyp
    exact ab_return d_B_weighServices_58 rfl rfl rfl (Nat.le_of_ble_eq_true rfl) (Nat.le_of_ble_eq_true rfl)
  · replace hyp := ab_neg z3 hyp
    refine ab_aload_n 11 d_B_weighServices_10 rfl ?_
    refine ab_get 14 d_B_weighServices_11 fd_18 rfl rfl ?_
    refine ab_iload_n 15 d_B_weighServices_14 rfl ?_
    refine ab_iload_n 16 d_B_weighServices_15 rfl ?_
    obtain ⟨r5, hc4, hyp⟩ := ab_bind hyp
    refine ab_callS (h' := lay M) 19 0 0 [.int v3, .ref 32] [.int r5, .int v3, .ref 32] d_B_weighServices_16 ok_J_bitCount lk_37 (c_J_bitCount hc4) rfl ?_
    refine ab_aload_n 20 d_B_weighServices_19 rfl ?_
    refine ab_get 23 d_B_weighServices_20 fd_19 rfl rfl ?_
    refine ab_ic_le 32 26 d_B_weighServices_23 (fun z6 => ?_) (fun z6 => ?_)
    · replace hyp := ab_pos z6 hyp
      refine ab_aload_n 33 d_B_weighServices_32 rfl ?_
      refine ab_iload_n 34 d_B_weighServices_33 rfl ?_
      refine ab_iload_n 35 d_B_weighServices_34 rfl ?_
      refine ab_aload_n 36 d_B_weighServices_35 rfl ?_
      obtain ⟨r8, hc7, hyp⟩ := ab_bind hyp
      refine ab_callV (h' := lay M) 39 0 0 [.int v3, .ref 32] [.long r8, .int v3, .ref 32] d_B_weighServices_36 ok_B_sumOfKin lk_38 (c_B_sumOfKin hc7) rfl rfl ?_
      refine ab_pick [0, 1, 2, 3] [(0, _), (1, _), (2, _), (3, _)] rfl ?_
      exact q_B_weighServices_c39 rec2 hrec2 v1 v3 r8 v3 M hyp
    · replace hyp := ab_neg z6 hyp
      refine ab_ldc2 (v := (-1 : Int64)) 29 d_B_weighServices_26 w_5 ?_
      refine ab_goto 39 d_B_weighServices_29 ?_
      refine ab_pick [0, 1, 2, 3] [(0, _), (1, _), (2, _), (3, _)] rfl ?_
      exact q_B_weighServices_c39 rec2 hrec2 v1 v3 (-1 : Int64) v3 M hyp
theorem q_B_weighServices_L2 {l : Launch} {D : va_G} {B : Nat} {ad : Nat → Nat} {r : Me} : ∀ (F : Nat) (v1 : Int32) (v3 : Int32) (M : Me) , B_weighServices_L2 F v1 v3 M = some r → ab_V (ab_km l D B ad y_B_weighServices rm_B_weighServices (.ok none) (lay r)) ad 2 [(0, .ref 2), (1, .int v1), (2, .ref 1), (3, .int v3)] [] (lay M) 0 0 := by
  intro F
  induction F with
  | zero =>
    intro v1 v3 M hyp
    have h2 : (none : Option Me) = some r := hyp
    cases h2
  | succ F ih =>
    intro v1 v3 M hyp
    exact q_B_weighServices_b2 (B_weighServices_L2 F) ih v1 v3 M hyp
theorem c_B_weighServices {M : Me} {v1 : Int32} {r : Me} (hyp : B_weighServices M v1 = some r) : ab_Met y_B_weighServices rm_B_weighServices [.ref 2, .int v1, .ref 1] (lay M) (.ok none) (lay r) := by
  refine ab_start rfl rfl (Nat.le_of_ble_eq_true rfl) (fun l D B ad => ?_)
  show ab_V _ ad 0 [(0, .ref 2), (1, .int v1), (2, .ref 1)] [] _ 0 0
  unfold B_weighServices at hyp
  refine ab_iconst 1 d_B_weighServices_0 (0 : Int32) (by decide) ?_
  refine ab_istore_n 2 [(3, _), (0, _), (1, _), (2, _)] d_B_weighServices_1 rfl ?_
  refine ab_pick [1, 2, 3, 0] [(0, _), (1, _), (2, _), (3, _)] rfl ?_
  exact q_B_weighServices_L2 64 v1 (0 : Int32) M hyp
/-! B_keepBetter -/
def B_keepBetter_c51 (v1 : Int32) (v2 : Int64) (v4 : Int32) (s0 : Int32) (M : Me) : Option Me :=
  if s0 = (0 : Int32) then (some M) else (gd (inb v1 32) (gd (inb v1 32) (some (sI (sL M 2 v1 v2) 10 v1 v4))))
def B_keepBetter (M : Me) (v1 : Int32) (v2 : Int64) (v4 : Int32) : Option Me :=
  gd (inb v1 32) (if (gL M 2 v1) = (-1 : Int64) then (B_keepBetter_c51 v1 v2 v4 (1 : Int32) M) else (gd (inb v1 32) (if v2 < (gL M 2 v1) then (B_keepBetter_c51 v1 v2 v4 (1 : Int32) M) else (gd (inb v1 32) (if v2 = (gL M 2 v1) then (gd (inb v1 32) (if (gI M 10 v1) ≤ v4 then (B_keepBetter_c51 v1 v2 v4 (0 : Int32) M) else (B_keepBetter_c51 v1 v2 v4 (1 : Int32) M))) else (B_keepBetter_c51 v1 v2 v4 (0 : Int32) M))))))
def rm_B_keepBetter : Room := { frames := 0, locals := 0, cells := 0, slots := 0 }
theorem q_B_keepBetter_c51 {l : Launch} {D : va_G} {B : Nat} {ad : Nat → Nat} {r : Me} (v1 : Int32) (v2 : Int64) (v4 : Int32) (s0 : Int32) (M : Me) (hyp : B_keepBetter_c51 v1 v2 v4 s0 M = some r) : ab_V (ab_km l D B ad y_B_keepBetter rm_B_keepBetter (.ok none) (lay r)) ad 51 [(0, .ref 2), (1, .int v1), (2, .long v2), (4, .int v4)] [.int s0] (lay M) 0 0 := by
  unfold B_keepBetter_c51 at hyp
  refine ab_istore 53 [(5, _), (0, _), (1, _), (2, _), (4, _)] d_B_keepBetter_51 rfl ?_
  refine ab_iload 55 d_B_keepBetter_53 rfl ?_
  refine ab_if_eq 73 58 d_B_keepBetter_55 (fun z1 => ?_) (fun z1 => ?_)
  · replace hyp := ab_pos z1 hyp
    cases hyp
    exact ab_return d_B_keepBetter_73 rfl rfl rfl (Nat.le_of_ble_eq_true rfl) (Nat.le_of_ble_eq_true rfl)
  · replace hyp := ab_neg z1 hyp
    refine ab_aload_n 59 d_B_keepBetter_58 rfl ?_
    refine ab_get 62 d_B_keepBetter_59 fd_15 rfl rfl ?_
    refine ab_iload_n 63 d_B_keepBetter_62 rfl ?_
    refine ab_lload_n 64 d_B_keepBetter_63 rfl ?_
    obtain ⟨g2, hyp⟩ := ab_gd hyp
    refine ab_lst 2 32 65 d_B_keepBetter_64 rfl g2 lay_L2 ?_
    refine ab_aload_n 66 d_B_keepBetter_65 rfl ?_
    refine ab_get 69 d_B_keepBetter_66 fd_16 rfl rfl ?_
    refine ab_iload_n 70 d_B_keepBetter_69 rfl ?_
    refine ab_iload 72 d_B_keepBetter_70 rfl ?_
    obtain ⟨g3, hyp⟩ := ab_gd hyp
    refine ab_ist 10 32 73 d_B_keepBetter_72 rfl g3 lay_I10 ?_
    cases hyp
    exact ab_return d_B_keepBetter_73 rfl rfl rfl (Nat.le_of_ble_eq_true rfl) (Nat.le_of_ble_eq_true rfl)
theorem c_B_keepBetter {M : Me} {v1 : Int32} {v2 : Int64} {v4 : Int32} {r : Me} (hyp : B_keepBetter M v1 v2 v4 = some r) : ab_Met y_B_keepBetter rm_B_keepBetter [.ref 2, .int v1, .long v2, .int v4] (lay M) (.ok none) (lay r) := by
  refine ab_start rfl rfl (Nat.le_of_ble_eq_true rfl) (fun l D B ad => ?_)
  show ab_V _ ad 0 [(0, .ref 2), (1, .int v1), (2, .long v2), (4, .int v4)] [] _ 0 0
  unfold B_keepBetter at hyp
  refine ab_aload_n 1 d_B_keepBetter_0 rfl ?_
  refine ab_get 4 d_B_keepBetter_1 fd_15 rfl rfl ?_
  refine ab_iload_n 5 d_B_keepBetter_4 rfl ?_
  obtain ⟨g1, hyp⟩ := ab_gd hyp
  refine ab_lld 2 32 6 d_B_keepBetter_5 rfl g1 ?_
  refine ab_ldc2 (v := (-1 : Int64)) 9 d_B_keepBetter_6 w_5 ?_
  refine ab_lc_eq 46 10 13 d_B_keepBetter_9 d_B_keepBetter_10 (fun z2 => ?_) (fun z2 => ?_)
  · replace hyp := ab_pos z2 hyp
    refine ab_iconst 47 d_B_keepBetter_46 (1 : Int32) (by decide) ?_
    refine ab_goto 51 d_B_keepBetter_47 ?_
    refine ab_pick [0, 1, 2, 3] [(0, _), (1, _), (2, _), (4, _)] rfl ?_
    exact q_B_keepBetter_c51 v1 v2 v4 (1 : Int32) M hyp
  · replace hyp := ab_neg z2 hyp
    refine ab_lload_n 14 d_B_keepBetter_13 rfl ?_
    refine ab_aload_n 15 d_B_keepBetter_14 rfl ?_
    refine ab_get 18 d_B_keepBetter_15 fd_15 rfl rfl ?_
    refine ab_iload_n 19 d_B_keepBetter_18 rfl ?_
    obtain ⟨g3, hyp⟩ := ab_gd hyp
    refine ab_lld 2 32 20 d_B_keepBetter_19 rfl g3 ?_
    refine ab_lc_lt 46 21 24 d_B_keepBetter_20 d_B_keepBetter_21 (fun z4 => ?_) (fun z4 => ?_)
    · replace hyp := ab_pos z4 hyp
      refine ab_iconst 47 d_B_keepBetter_46 (1 : Int32) (by decide) ?_
      refine ab_goto 51 d_B_keepBetter_47 ?_
      refine ab_pick [0, 1, 2, 3] [(0, _), (1, _), (2, _), (4, _)] rfl ?_
      exact q_B_keepBetter_c51 v1 v2 v4 (1 : Int32) M hyp
    · replace hyp := ab_neg z4 hyp
      refine ab_lload_n 25 d_B_keepBetter_24 rfl ?_
      refine ab_aload_n 26 d_B_keepBetter_25 rfl ?_
      refine ab_get 29 d_B_keepBetter_26 fd_15 rfl rfl ?_
      refine ab_iload_n 30 d_B_keepBetter_29 rfl ?_
      obtain ⟨g5, hyp⟩ := ab_gd hyp
      refine ab_lld 2 32 31 d_B_keepBetter_30 rfl g5 ?_
      refine ab_lc_ne 50 32 35 d_B_keepBetter_31 d_B_keepBetter_32 (fun z6 => ?_) (fun z6 => ?_)
      · replace hyp := ab_neg z6 hyp
        refine ab_iconst 51 d_B_keepBetter_50 (0 : Int32) (by decide) ?_
        refine ab_pick [0, 1, 2, 3] [(0, _), (1, _), (2, _), (4, _)] rfl ?_
        exact q_B_keepBetter_c51 v1 v2 v4 (0 : Int32) M hyp
      · replace hyp := ab_pos z6 hyp
        refine ab_iload 37 d_B_keepBetter_35 rfl ?_
        refine ab_aload_n 38 d_B_keepBetter_37 rfl ?_
        refine ab_get 41 d_B_keepBetter_38 fd_16 rfl rfl ?_
        refine ab_iload_n 42 d_B_keepBetter_41 rfl ?_
        obtain ⟨g7, hyp⟩ := ab_gd hyp
        refine ab_ild 10 32 43 d_B_keepBetter_42 rfl g7 ?_
        refine ab_ic_ge 50 46 d_B_keepBetter_43 (fun z8 => ?_) (fun z8 => ?_)
        · replace hyp := ab_pos z8 hyp
          refine ab_iconst 51 d_B_keepBetter_50 (0 : Int32) (by decide) ?_
          refine ab_pick [0, 1, 2, 3] [(0, _), (1, _), (2, _), (4, _)] rfl ?_
          exact q_B_keepBetter_c51 v1 v2 v4 (0 : Int32) M hyp
        · replace hyp := ab_neg z8 hyp
          refine ab_iconst 47 d_B_keepBetter_46 (1 : Int32) (by decide) ?_
          refine ab_goto 51 d_B_keepBetter_47 ?_
          refine ab_pick [0, 1, 2, 3] [(0, _), (1, _), (2, _), (4, _)] rfl ?_
          exact q_B_keepBetter_c51 v1 v2 v4 (1 : Int32) M hyp
/-! B_improve -/
def B_improve_b2 (rec2 : Int32 → Int32 → Me → Option Me) (v1 : Int32) (v2 : Int32) (M : Me) : Option Me :=
  if v1 < v2 then (some M) else (if (v2 &&& (v1 ^^^ (-1 : Int32))) = (0 : Int32) then (gd (inb v2 32) (if (gL M 3 v2) = (-1 : Int64) then (rec2 v1 (v2 + (1 : Int32)) M) else (gd (inb (v1 &&& (v2 ^^^ (-1 : Int32))) 32) (if (gL M 2 (v1 &&& (v2 ^^^ (-1 : Int32)))) = (-1 : Int64) then (rec2 v1 (v2 + (1 : Int32)) M) else (gd (inb (v1 &&& (v2 ^^^ (-1 : Int32))) 32) (gd (inb v2 32) (gd (inb (v1 &&& (v2 ^^^ (-1 : Int32))) 32) (gd (inb v2 32) (Option.bind (B_keepBetter M v1 ((gL M 2 (v1 &&& (v2 ^^^ (-1 : Int32)))) + (gL M 3 v2)) ((gI M 10 (v1 &&& (v2 ^^^ (-1 : Int32)))) ||| (gI M 11 v2))) (fun r12 => rec2 v1 (v2 + (1 : Int32)) r12)))))))))) else (rec2 v1 (v2 + (1 : Int32)) M))
def B_improve_L2 : Nat → Int32 → Int32 → Me → Option Me
  | 0, _, _, _ => none
  | F + 1, v1, v2, M => B_improve_b2 (B_improve_L2 F) v1 v2 M
def B_improve (M : Me) (v1 : Int32) : Option Me :=
  B_improve_L2 64 v1 (1 : Int32) M
def rm_B_improve : Room := { frames := 1, locals := 25, cells := 0, slots := 0 }
theorem q_B_improve_b2 {l : Launch} {D : va_G} {B : Nat} {ad : Nat → Nat} {r : Me} (rec2 : Int32 → Int32 → Me → Option Me) (hrec2 : ∀ (v1 : Int32) (v2 : Int32) (M : Me) , rec2 v1 v2 M = some r → ab_V (ab_km l D B ad y_B_improve rm_B_improve (.ok none) (lay r)) ad 2 [(0, .ref 2), (1, .int v1), (2, .int v2)] [] (lay M) 0 0) (v1 : Int32) (v2 : Int32) (M : Me) (hyp : B_improve_b2 rec2 v1 v2 M = some r) : ab_V (ab_km l D B ad y_B_improve rm_B_improve (.ok none) (lay r)) ad 2 [(0, .ref 2), (1, .int v1), (2, .int v2)] [] (lay M) 0 0 := by
  unfold B_improve_b2 at hyp
  refine ab_iload_n 3 d_B_improve_2 rfl ?_
  refine ab_iload_n 4 d_B_improve_3 rfl ?_
  refine ab_ic_gt 84 7 d_B_improve_4 (fun z1 => ?_) (fun z1 => ?_)
  · replace hyp := ab_pos z1 hyp
    cases hyp
    exact ab_return d_B_improve_84 rfl rfl rfl (Nat.le_of_ble_eq_true rfl) (Nat.le_of_ble_eq_true rfl)
  · replace hyp := ab_neg z1 hyp
    refine ab_iload_n 8 d_B_improve_7 rfl ?_
    refine ab_iload_n 9 d_B_improve_8 rfl ?_
    refine ab_iconst 10 d_B_improve_9 (-1 : Int32) (by decide) ?_
    refine ab_ixor 11 d_B_improve_10 ?_
    refine ab_iand 12 d_B_improve_11 ?_
    refine ab_istore_n 13 [(3, _), (0, _), (1, _), (2, _)] d_B_improve_12 rfl ?_
    refine ab_iload_n 14 d_B_improve_13 rfl ?_
    refine ab_iload_n 15 d_B_improve_14 rfl ?_
    refine ab_iconst 16 d_B_improve_15 (-1 : Int32) (by decide) ?_
    refine ab_ixor 17 d_B_improve_16 ?_
    refine ab_iand 18 d_B_improve_17 ?_
    refine ab_if_ne 78 21 d_B_improve_18 (fun z2 => ?_) (fun z2 => ?_)
    · replace hyp := ab_neg z2 hyp
      refine ab_iinc 81 [(2, _), (3, _), (0, _), (1, _)] d_B_improve_78 (1 : Int32) (by decide) rfl rfl ?_
      refine ab_goto 2 d_B_improve_81 ?_
      refine ab_pick [2, 3, 0] [(0, _), (1, _), (2, _)] rfl ?_
      exact hrec2 v1 (v2 + (1 : Int32)) M hyp
    · replace hyp := ab_pos z2 hyp
      refine ab_aload_n 22 d_B_improve_21 rfl ?_
      refine ab_get 25 d_B_improve_22 fd_18 rfl rfl ?_
      refine ab_iload_n 26 d_B_improve_25 rfl ?_
      obtain ⟨g3, hyp⟩ := ab_gd hyp
      refine ab_lld 3 32 27 d_B_improve_26 rfl g3 ?_
      refine ab_ldc2 (v := (-1 : Int64)) 30 d_B_improve_27 w_5 ?_
      refine ab_lc_eq 78 31 34 d_B_improve_30 d_B_improve_31 (fun z4 => ?_) (fun z4 => ?_)
      · replace hyp := ab_pos z4 hyp
        refine ab_iinc 81 [(2, _), (3, _), (0, _), (1, _)] d_B_improve_78 (1 : Int32) (by decide) rfl rfl ?_
        refine ab_goto 2 d_B_improve_81 ?_
        refine ab_pick [2, 3, 0] [(0, _), (1, _), (2, _)] rfl ?_
        exact hrec2 v1 (v2 + (1 : Int32)) M hyp
      · replace hyp := ab_neg z4 hyp
        refine ab_aload_n 35 d_B_improve_34 rfl ?_
        refine ab_get 38 d_B_improve_35 fd_15 rfl rfl ?_
        refine ab_iload_n 39 d_B_improve_38 rfl ?_
        obtain ⟨g5, hyp⟩ := ab_gd hyp
        refine ab_lld 2 32 40 d_B_improve_39 rfl g5 ?_
        refine ab_ldc2 (v := (-1 : Int64)) 43 d_B_improve_40 w_5 ?_
        refine ab_lc_eq 78 44 47 d_B_improve_43 d_B_improve_44 (fun z6 => ?_) (fun z6 => ?_)
        · replace hyp := ab_pos z6 hyp
          refine ab_iinc 81 [(2, _), (3, _), (0, _), (1, _)] d_B_improve_78 (1 : Int32) (by decide) rfl rfl ?_
          refine ab_goto 2 d_B_improve_81 ?_
          refine ab_pick [2, 3, 0] [(0, _), (1, _), (2, _)] rfl ?_
          exact hrec2 v1 (v2 + (1 : Int32)) M hyp
        · replace hyp := ab_neg z6 hyp
          refine ab_aload_n 48 d_B_improve_47 rfl ?_
          refine ab_iload_n 49 d_B_improve_48 rfl ?_
          refine ab_aload_n 50 d_B_improve_49 rfl ?_
          refine ab_get 53 d_B_improve_50 fd_15 rfl rfl ?_
          refine ab_iload_n 54 d_B_improve_53 rfl ?_
          obtain ⟨g7, hyp⟩ := ab_gd hyp
          refine ab_lld 2 32 55 d_B_improve_54 rfl g7 ?_
          refine ab_aload_n 56 d_B_improve_55 rfl ?_
          refine ab_get 59 d_B_improve_56 fd_18 rfl rfl ?_
          refine ab_iload_n 60 d_B_improve_59 rfl ?_
          obtain ⟨g8, hyp⟩ := ab_gd hyp
          refine ab_lld 3 32 61 d_B_improve_60 rfl g8 ?_
          refine ab_ladd 62 d_B_improve_61 ?_
          refine ab_aload_n 63 d_B_improve_62 rfl ?_
          refine ab_get 66 d_B_improve_63 fd_16 rfl rfl ?_
          refine ab_iload_n 67 d_B_improve_66 rfl ?_
          obtain ⟨g9, hyp⟩ := ab_gd hyp
          refine ab_ild 10 32 68 d_B_improve_67 rfl g9 ?_
          refine ab_aload_n 69 d_B_improve_68 rfl ?_
          refine ab_get 72 d_B_improve_69 fd_20 rfl rfl ?_
          refine ab_iload_n 73 d_B_improve_72 rfl ?_
          obtain ⟨g10, hyp⟩ := ab_gd hyp
          refine ab_ild 11 32 74 d_B_improve_73 rfl g10 ?_
          refine ab_ior 75 d_B_improve_74 ?_
          obtain ⟨r12, hc11, hyp⟩ := ab_bind hyp
          refine ab_callV (h' := lay r12) 78 0 0 [] [] d_B_improve_75 ok_B_keepBetter lk_40 (c_B_keepBetter hc11) rfl rfl ?_
          refine ab_iinc 81 [(2, _), (3, _), (0, _), (1, _)] d_B_improve_78 (1 : Int32) (by decide) rfl rfl ?_
          refine ab_goto 2 d_B_improve_81 ?_
          refine ab_pick [2, 3, 0] [(0, _), (1, _), (2, _)] rfl ?_
          exact hrec2 v1 (v2 + (1 : Int32)) r12 hyp
theorem q_B_improve_L2 {l : Launch} {D : va_G} {B : Nat} {ad : Nat → Nat} {r : Me} : ∀ (F : Nat) (v1 : Int32) (v2 : Int32) (M : Me) , B_improve_L2 F v1 v2 M = some r → ab_V (ab_km l D B ad y_B_improve rm_B_improve (.ok none) (lay r)) ad 2 [(0, .ref 2), (1, .int v1), (2, .int v2)] [] (lay M) 0 0 := by
  intro F
  induction F with
  | zero =>
    intro v1 v2 M hyp
    have h2 : (none : Option Me) = some r := hyp
    cases h2
  | succ F ih =>
    intro v1 v2 M hyp
    exact q_B_improve_b2 (B_improve_L2 F) ih v1 v2 M hyp
theorem c_B_improve {M : Me} {v1 : Int32} {r : Me} (hyp : B_improve M v1 = some r) : ab_Met y_B_improve rm_B_improve [.ref 2, .int v1] (lay M) (.ok none) (lay r) := by
  refine ab_start rfl rfl (Nat.le_of_ble_eq_true rfl) (fun l D B ad => ?_)
  show ab_V _ ad 0 [(0, .ref 2), (1, .int v1)] [] _ 0 0
  unfold B_improve at hyp
  refine ab_iconst 1 d_B_improve_0 (1 : Int32) (by decide) ?_
  refine ab_istore_n 2 [(2, _), (0, _), (1, _)] d_B_improve_1 rfl ?_
  refine ab_pick [1, 2, 0] [(0, _), (1, _), (2, _)] rfl ?_
  exact q_B_improve_L2 64 v1 (1 : Int32) M hyp
/-! B_offer -/
def B_offer_b11 (rec11 : Int32 → Me → Option Me) (v3 : Int32) (M : Me) : Option Me :=
  if v3 ≤ (0 : Int32) then (some M) else (Option.bind (B_improve M v3) (fun r3 => rec11 (v3 + (-1 : Int32)) r3))
def B_offer_L11 : Nat → Int32 → Me → Option Me
  | 0, _, _ => none
  | F + 1, v3, M => B_offer_b11 (B_offer_L11 F) v3 M
def B_offer (M : Me) (v1 : Int32) : Option Me :=
  Option.bind (B_weighServices M v1) (fun r2 => Option.bind (B_allCows r2) (fun r4 => B_offer_L11 64 r4 r2))
def rm_B_offer : Room := { frames := 3, locals := 73, cells := 0, slots := 0 }
theorem q_B_offer_b11 {l : Launch} {D : va_G} {B : Nat} {ad : Nat → Nat} {r : Me} (rec11 : Int32 → Me → Option Me) (hrec11 : ∀ (v3 : Int32) (M : Me) , rec11 v3 M = some r → ab_V (ab_km l D B ad y_B_offer rm_B_offer (.ok none) (lay r)) ad 11 [(0, .ref 2), (3, .int v3)] [] (lay M) 0 0) (v3 : Int32) (M : Me) (hyp : B_offer_b11 rec11 v3 M = some r) : ab_V (ab_km l D B ad y_B_offer rm_B_offer (.ok none) (lay r)) ad 11 [(0, .ref 2), (3, .int v3)] [] (lay M) 0 0 := by
  unfold B_offer_b11 at hyp
  refine ab_iload_n 12 d_B_offer_11 rfl ?_
  refine ab_if_le 26 15 d_B_offer_12 (fun z1 => ?_) (fun z1 => ?_)
  · replace hyp := ab_pos z1 hyp
    cases hyp
    exact ab_return d_B_offer_26 rfl rfl rfl (Nat.le_of_ble_eq_true rfl) (Nat.le_of_ble_eq_true rfl)
  · replace hyp := ab_neg z1 hyp
    refine ab_aload_n 16 d_B_offer_15 rfl ?_
    refine ab_iload_n 17 d_B_offer_16 rfl ?_
    obtain ⟨r3, hc2, hyp⟩ := ab_bind hyp
    refine ab_callV (h' := lay r3) 20 0 0 [] [] d_B_offer_17 ok_B_improve lk_42 (c_B_improve hc2) rfl rfl ?_
    refine ab_iinc 23 [(3, _), (0, _)] d_B_offer_20 (-1 : Int32) (by decide) rfl rfl ?_
    refine ab_goto 11 d_B_offer_23 ?_
    refine ab_pick [1, 0] [(0, _), (3, _)] rfl ?_
    exact hrec11 (v3 + (-1 : Int32)) r3 hyp
theorem q_B_offer_L11 {l : Launch} {D : va_G} {B : Nat} {ad : Nat → Nat} {r : Me} : ∀ (F : Nat) (v3 : Int32) (M : Me) , B_offer_L11 F v3 M = some r → ab_V (ab_km l D B ad y_B_offer rm_B_offer (.ok none) (lay r)) ad 11 [(0, .ref 2), (3, .int v3)] [] (lay M) 0 0 := by
  intro F
  induction F with
  | zero =>
    intro v3 M hyp
    have h2 : (none : Option Me) = some r := hyp
    cases h2
  | succ F ih =>
    intro v3 M hyp
    exact q_B_offer_b11 (B_offer_L11 F) ih v3 M hyp
theorem c_B_offer {M : Me} {v1 : Int32} {r : Me} (hyp : B_offer M v1 = some r) : ab_Met y_B_offer rm_B_offer [.ref 2, .int v1, .ref 1] (lay M) (.ok none) (lay r) := by
  refine ab_start rfl rfl (Nat.le_of_ble_eq_true rfl) (fun l D B ad => ?_)
  show ab_V _ ad 0 [(0, .ref 2), (1, .int v1), (2, .ref 1)] [] _ 0 0
  unfold B_offer at hyp
  refine ab_aload_n 1 d_B_offer_0 rfl ?_
  refine ab_iload_n 2 d_B_offer_1 rfl ?_
  refine ab_aload_n 3 d_B_offer_2 rfl ?_
  obtain ⟨r2, hc1, hyp⟩ := ab_bind hyp
  refine ab_callV (h' := lay r2) 6 0 0 [] [] d_B_offer_3 ok_B_weighServices lk_41 (c_B_weighServices hc1) rfl rfl ?_
  refine ab_aload_n 7 d_B_offer_6 rfl ?_
  obtain ⟨r4, hc3, hyp⟩ := ab_bind hyp
  refine ab_callV (h' := lay r2) 10 0 0 [] [.int r4] d_B_offer_7 ok_B_allCows lk_36 (c_B_allCows hc3) rfl rfl ?_
  refine ab_istore_n 11 [(3, _), (0, _), (1, _), (2, _)] d_B_offer_10 rfl ?_
  refine ab_pick [1, 0] [(0, _), (3, _)] rfl ?_
  exact q_B_offer_L11 64 r4 r2 hyp
/-! B_leastSum -/
def B_leastSum (M : Me) : Option Int64 :=
  Option.bind (B_allCows M) (fun r2 => gd (inb r2 32) (some (gL M 2 r2)))
def rm_B_leastSum : Room := { frames := 1, locals := 20, cells := 0, slots := 0 }
theorem c_B_leastSum {M : Me} {r : Int64} (hyp : B_leastSum M = some r) : ab_Met y_B_leastSum rm_B_leastSum [.ref 2] (lay M) (.ok (some (.long r))) (lay M) := by
  refine ab_start rfl rfl (Nat.le_of_ble_eq_true rfl) (fun l D B ad => ?_)
  show ab_V _ ad 0 [(0, .ref 2)] [] _ 0 0
  unfold B_leastSum at hyp
  refine ab_aload_n 1 d_B_leastSum_0 rfl ?_
  refine ab_get 4 d_B_leastSum_1 fd_15 rfl rfl ?_
  refine ab_aload_n 5 d_B_leastSum_4 rfl ?_
  obtain ⟨r2, hc1, hyp⟩ := ab_bind hyp
  refine ab_callV (h' := lay M) 8 0 0 [.ref 31] [.int r2, .ref 31] d_B_leastSum_5 ok_B_allCows lk_36 (c_B_allCows hc1) rfl rfl ?_
  obtain ⟨g3, hyp⟩ := ab_gd hyp
  refine ab_lld 2 32 9 d_B_leastSum_8 rfl g3 ?_
  cases hyp
  exact ab_lreturn d_B_leastSum_9 rfl rfl rfl (Nat.le_of_ble_eq_true rfl) (Nat.le_of_ble_eq_true rfl)
/-! B_writeBulls -/
def B_writeBulls_b12 (rec12 : Int32 → Int32 → Me → Option Me) (v2 : Int32) (v3 : Int32) (M : Me) : Option Me :=
  if (gF M 2) ≤ v3 then (some M) else (gd (inb v3 5) (Option.bind (B_shiftOf M v3) (fun r4 => gd (inb (gI M 9 v3) 24) (rec12 v2 (v3 + (1 : Int32)) (sI M 8 (gI M 9 v3) ((v2 >>> (r4 &&& 31)) &&& (31 : Int32)))))))
def B_writeBulls_L12 : Nat → Int32 → Int32 → Me → Option Me
  | 0, _, _, _ => none
  | F + 1, v2, v3, M => B_writeBulls_b12 (B_writeBulls_L12 F) v2 v3 M
def B_writeBulls (M : Me) : Option Me :=
  Option.bind (B_allCows M) (fun r2 => gd (inb r2 32) (B_writeBulls_L12 64 (gI M 10 r2) (0 : Int32) M))
def rm_B_writeBulls : Room := { frames := 1, locals := 20, cells := 0, slots := 0 }
theorem q_B_writeBulls_b12 {l : Launch} {D : va_G} {B : Nat} {ad : Nat → Nat} {r : Me} (rec12 : Int32 → Int32 → Me → Option Me) (hrec12 : ∀ (v2 : Int32) (v3 : Int32) (M : Me) , rec12 v2 v3 M = some r → ab_V (ab_km l D B ad y_B_writeBulls rm_B_writeBulls (.ok none) (lay r)) ad 12 [(0, .ref 2), (1, .ref 13), (2, .int v2), (3, .int v3)] [] (lay M) 0 0) (v2 : Int32) (v3 : Int32) (M : Me) (hyp : B_writeBulls_b12 rec12 v2 v3 M = some r) : ab_V (ab_km l D B ad y_B_writeBulls rm_B_writeBulls (.ok none) (lay r)) ad 12 [(0, .ref 2), (1, .ref 13), (2, .int v2), (3, .int v3)] [] (lay M) 0 0 := by
  unfold B_writeBulls_b12 at hyp
  refine ab_iload_n 13 d_B_writeBulls_12 rfl ?_
  refine ab_aload_n 14 d_B_writeBulls_13 rfl ?_
  refine ab_get 17 d_B_writeBulls_14 fd_13 rfl rfl ?_
  refine ab_ic_ge 43 20 d_B_writeBulls_17 (fun z1 => ?_) (fun z1 => ?_)
  · replace hyp := ab_pos z1 hyp
    cases hyp
    exact ab_return d_B_writeBulls_43 rfl rfl rfl (Nat.le_of_ble_eq_true rfl) (Nat.le_of_ble_eq_true rfl)
  · replace hyp := ab_neg z1 hyp
    refine ab_aload_n 21 d_B_writeBulls_20 rfl ?_
    refine ab_aload_n 22 d_B_writeBulls_21 rfl ?_
    refine ab_get 25 d_B_writeBulls_22 fd_14 rfl rfl ?_
    refine ab_iload_n 26 d_B_writeBulls_25 rfl ?_
    obtain ⟨g2, hyp⟩ := ab_gd hyp
    refine ab_ild 9 5 27 d_B_writeBulls_26 rfl g2 ?_
    refine ab_iload_n 28 d_B_writeBulls_27 rfl ?_
    refine ab_iload_n 29 d_B_writeBulls_28 rfl ?_
    obtain ⟨r4, hc3, hyp⟩ := ab_bind hyp
    refine ab_callS (h' := lay M) 32 0 0 [.int v2, .int ((gI M 9 v3)), .ref 13] [.int r4, .int v2, .int ((gI M 9 v3)), .ref 13] d_B_writeBulls_29 ok_B_shiftOf lk_35 (c_B_shiftOf hc3) rfl ?_
    refine ab_ishr 33 d_B_writeBulls_32 ?_
    refine ab_bipush 35 d_B_writeBulls_33 (31 : Int32) (by decide) ?_
    refine ab_iand 36 d_B_writeBulls_35 ?_
    obtain ⟨g5, hyp⟩ := ab_gd hyp
    refine ab_ist 8 24 37 d_B_writeBulls_36 rfl g5 lay_I8 ?_
    refine ab_iinc 40 [(3, _), (0, _), (1, _), (2, _)] d_B_writeBulls_37 (1 : Int32) (by decide) rfl rfl ?_
    refine ab_goto 12 d_B_writeBulls_40 ?_
    refine ab_pick [1, 2, 3, 0] [(0, _), (1, _), (2, _), (3, _)] rfl ?_
    exact hrec12 v2 (v3 + (1 : Int32)) (sI M 8 (gI M 9 v3) ((v2 >>> (r4 &&& 31)) &&& (31 : Int32))) hyp
theorem q_B_writeBulls_L12 {l : Launch} {D : va_G} {B : Nat} {ad : Nat → Nat} {r : Me} : ∀ (F : Nat) (v2 : Int32) (v3 : Int32) (M : Me) , B_writeBulls_L12 F v2 v3 M = some r → ab_V (ab_km l D B ad y_B_writeBulls rm_B_writeBulls (.ok none) (lay r)) ad 12 [(0, .ref 2), (1, .ref 13), (2, .int v2), (3, .int v3)] [] (lay M) 0 0 := by
  intro F
  induction F with
  | zero =>
    intro v2 v3 M hyp
    have h2 : (none : Option Me) = some r := hyp
    cases h2
  | succ F ih =>
    intro v2 v3 M hyp
    exact q_B_writeBulls_b12 (B_writeBulls_L12 F) ih v2 v3 M hyp
theorem c_B_writeBulls {M : Me} {r : Me} (hyp : B_writeBulls M = some r) : ab_Met y_B_writeBulls rm_B_writeBulls [.ref 2, .ref 13] (lay M) (.ok none) (lay r) := by
  refine ab_start rfl rfl (Nat.le_of_ble_eq_true rfl) (fun l D B ad => ?_)
  show ab_V _ ad 0 [(0, .ref 2), (1, .ref 13)] [] _ 0 0
  unfold B_writeBulls at hyp
  refine ab_aload_n 1 d_B_writeBulls_0 rfl ?_
  refine ab_get 4 d_B_writeBulls_1 fd_16 rfl rfl ?_
  refine ab_aload_n 5 d_B_writeBulls_4 rfl ?_
  obtain ⟨r2, hc1, hyp⟩ := ab_bind hyp
  refine ab_callV (h' := lay M) 8 0 0 [.ref 15] [.int r2, .ref 15] d_B_writeBulls_5 ok_B_allCows lk_36 (c_B_allCows hc1) rfl rfl ?_
  obtain ⟨g3, hyp⟩ := ab_gd hyp
  refine ab_ild 10 32 9 d_B_writeBulls_8 rfl g3 ?_
  refine ab_istore_n 10 [(2, _), (0, _), (1, _)] d_B_writeBulls_9 rfl ?_
  refine ab_iconst 11 d_B_writeBulls_10 (0 : Int32) (by decide) ?_
  refine ab_istore_n 12 [(3, _), (2, _), (0, _), (1, _)] d_B_writeBulls_11 rfl ?_
  refine ab_pick [2, 3, 1, 0] [(0, _), (1, _), (2, _), (3, _)] rfl ?_
  exact q_B_writeBulls_L12 64 (gI M 10 r2) (0 : Int32) M hyp
/-! H_keepList -/
def H_keepList (M : Me) : Option Me :=
  Option.bind (B_leastSum (fI M 8 24 (-1 : Int32))) (fun r2 => if r2 = (-1 : Int64) then (if (gF (sF (fI M 8 24 (-1 : Int32)) 1 (0 : Int32)) 1) = (0 : Int32) then (some (sF (fI M 8 24 (-1 : Int32)) 1 (0 : Int32))) else (Option.bind (B_writeBulls (sF (fI M 8 24 (-1 : Int32)) 1 (0 : Int32))) (fun r6 => some r6))) else (if (gF (sF (fI M 8 24 (-1 : Int32)) 1 (1 : Int32)) 1) = (0 : Int32) then (some (sF (fI M 8 24 (-1 : Int32)) 1 (1 : Int32))) else (Option.bind (B_writeBulls (sF (fI M 8 24 (-1 : Int32)) 1 (1 : Int32))) (fun r9 => some r9))))
def rm_H_keepList : Room := { frames := 2, locals := 43, cells := 0, slots := 0 }
theorem c_H_keepList {M : Me} {r : Me} (hyp : H_keepList M = some r) : ab_Met y_H_keepList rm_H_keepList [.ref 0] (lay M) (.ok none) (lay r) := by
  refine ab_start rfl rfl (Nat.le_of_ble_eq_true rfl) (fun l D B ad => ?_)
  show ab_V _ ad 0 [(0, .ref 0)] [] _ 0 0
  unfold H_keepList at hyp
  refine ab_aload_n 1 d_H_keepList_0 rfl ?_
  refine ab_get 4 d_H_keepList_1 fd_21 rfl rfl ?_
  refine ab_iconst 5 d_H_keepList_4 (-1 : Int32) (by decide) ?_
  refine ab_callS (h' := lay (fI M 8 24 (-1 : Int32))) 8 0 0 [] [] d_H_keepList_5 ok_J_fillI lk_43 (c_J_fillI8 M (-1 : Int32)) rfl ?_
  refine ab_aload_n 9 d_H_keepList_8 rfl ?_
  refine ab_aload_n 10 d_H_keepList_9 rfl ?_
  refine ab_get 13 d_H_keepList_10 fd_22 rfl rfl ?_
  obtain ⟨r2, hc1, hyp⟩ := ab_bind hyp
  refine ab_callV (h' := lay (fI M 8 24 (-1 : Int32))) 16 0 0 [.ref 0] [.long r2, .ref 0] d_H_keepList_13 ok_B_leastSum lk_44 (c_B_leastSum hc1) rfl rfl ?_
  refine ab_ldc2 (v := (-1 : Int64)) 19 d_H_keepList_16 w_6 ?_
  refine ab_lc_eq 27 20 23 d_H_keepList_19 d_H_keepList_20 (fun z3 => ?_) (fun z3 => ?_)
  · replace hyp := ab_pos z3 hyp
    refine ab_iconst 28 d_H_keepList_27 (0 : Int32) (by decide) ?_
    refine ab_puti 31 d_H_keepList_28 fw_4 rfl (lay_F1 _ _) ?_
    refine ab_aload_n 32 d_H_keepList_31 rfl ?_
    refine ab_get 35 d_H_keepList_32 fd_23 rfl rfl ?_
    refine ab_if_eq 49 38 d_H_keepList_35 (fun z4 => ?_) (fun z4 => ?_)
    · replace hyp := ab_pos z4 hyp
      cases hyp
      exact ab_return d_H_keepList_49 rfl rfl rfl (Nat.le_of_ble_eq_true rfl) (Nat.le_of_ble_eq_true rfl)
    · replace hyp := ab_neg z4 hyp
      refine ab_aload_n 39 d_H_keepList_38 rfl ?_
      refine ab_get 42 d_H_keepList_39 fd_22 rfl rfl ?_
      refine ab_aload_n 43 d_H_keepList_42 rfl ?_
      refine ab_get 46 d_H_keepList_43 fd_21 rfl rfl ?_
      obtain ⟨r6, hc5, hyp⟩ := ab_bind hyp
      refine ab_callV (h' := lay r6) 49 0 0 [] [] d_H_keepList_46 ok_B_writeBulls lk_45 (c_B_writeBulls hc5) rfl rfl ?_
      cases hyp
      exact ab_return d_H_keepList_49 rfl rfl rfl (Nat.le_of_ble_eq_true rfl) (Nat.le_of_ble_eq_true rfl)
  · replace hyp := ab_neg z3 hyp
    refine ab_iconst 24 d_H_keepList_23 (1 : Int32) (by decide) ?_
    refine ab_goto 28 d_H_keepList_24 ?_
    refine ab_puti 31 d_H_keepList_28 fw_4 rfl (lay_F1 _ _) ?_
    refine ab_aload_n 32 d_H_keepList_31 rfl ?_
    refine ab_get 35 d_H_keepList_32 fd_23 rfl rfl ?_
    refine ab_if_eq 49 38 d_H_keepList_35 (fun z7 => ?_) (fun z7 => ?_)
    · replace hyp := ab_pos z7 hyp
      cases hyp
      exact ab_return d_H_keepList_49 rfl rfl rfl (Nat.le_of_ble_eq_true rfl) (Nat.le_of_ble_eq_true rfl)
    · replace hyp := ab_neg z7 hyp
      refine ab_aload_n 39 d_H_keepList_38 rfl ?_
      refine ab_get 42 d_H_keepList_39 fd_22 rfl rfl ?_
      refine ab_aload_n 43 d_H_keepList_42 rfl ?_
      refine ab_get 46 d_H_keepList_43 fd_21 rfl rfl ?_
      obtain ⟨r9, hc8, hyp⟩ := ab_bind hyp
      refine ab_callV (h' := lay r9) 49 0 0 [] [] d_H_keepList_46 ok_B_writeBulls lk_45 (c_B_writeBulls hc8) rfl rfl ?_
      cases hyp
      exact ab_return d_H_keepList_49 rfl rfl rfl (Nat.le_of_ble_eq_true rfl) (Nat.le_of_ble_eq_true rfl)
