/-! H_plan -/
def H_plan_b75 (rec75 : Int32 → Me → Option (Except String Int64 × Me)) (v5 : Int32) (M : Me) : Option (Except String Int64 × Me) :=
  Option.bind (P_size M) (fun r2 => if r2 ≤ v5 then (Option.bind (H_keepList M) (fun r5 => Option.bind (B_leastSum r5) (fun r7 => some (.ok r7, r5)))) else (Option.bind (H_isLiving M v5 (0 : Int32)) (fun r9 => if r9 = (0 : Int32) then (rec75 (v5 + (1 : Int32)) M) else (Option.bind (B_offer M v5) (fun r12 => rec75 (v5 + (1 : Int32)) r12)))))
def H_plan_L75 : Nat → Int32 → Me → Option (Except String Int64 × Me)
  | 0, _, _ => none
  | F + 1, v5, M => H_plan_b75 (H_plan_L75 F) v5 M
def H_plan (M : Me) (v1 : Int32) (v2 : Int32) (v3 : Int64) : Option (Except String Int64 × Me) :=
  if v2 < (1 : Int32) then (some (.error "java/lang/IllegalArgumentException", M)) else (if (8 : Int32) < v2 then (some (.error "java/lang/IllegalArgumentException", M)) else (Option.bind (J_bitCount M v1) (fun r4 => if (5 : Int32) < r4 then (some (.error "java/lang/IllegalArgumentException", M)) else (if (0 : Int64) ≤ v3 then (Option.bind (P_size M) (fun r8 => if ((v1.toUInt32 >>> (r8.toUInt32 &&& Int32.toUInt32 31)).toInt32) = (0 : Int32) then (ab_thrP (H_requireLivingFemales M v1) (fun r11 => Option.bind (B_begin M v1 v2 v3) (fun r14 => H_plan_L75 64 (0 : Int32) r14)) (fun E12 => some (.error E12, M))) else (some (.error "java/util/NoSuchElementException", M)))) else (some (.error "java/lang/IllegalArgumentException", M))))))
def rm_H_plan : Room := { frames := 7, locals := 104, cells := 1, slots := 6 }
theorem q_H_plan_b75 {l : Launch} {D : va_G} {B : Nat} {ad : Nat → Nat} {r : Except String Int64 × Me} (rec75 : Int32 → Me → Option (Except String Int64 × Me)) (hrec75 : ∀ (v5 : Int32) (M : Me) , rec75 v5 M = some r → ab_V (ab_km l D B ad y_H_plan rm_H_plan (Except.map (fun v => some (.long v)) r.1) (lay r.2)) ad 75 [(0, .ref 0), (5, .int v5)] [] (lay M) 1 6) (v5 : Int32) (M : Me) (hyp : H_plan_b75 rec75 v5 M = some r) : ab_V (ab_km l D B ad y_H_plan rm_H_plan (Except.map (fun v => some (.long v)) r.1) (lay r.2)) ad 75 [(0, .ref 0), (5, .int v5)] [] (lay M) 1 6 := by
  unfold H_plan_b75 at hyp
  refine ab_iload 77 d_H_plan_75 rfl ?_
  refine ab_aload_n 78 d_H_plan_77 rfl ?_
  refine ab_get 81 d_H_plan_78 fd_1 rfl rfl ?_
  obtain ⟨r2, hc1, hyp⟩ := ab_bind hyp
  refine ab_callV (h' := lay M) 84 1 6 [.int v5] [.int r2, .int v5] d_H_plan_81 ok_P_size lk_0 (c_P_size hc1) rfl rfl ?_
  refine ab_ic_ge 116 87 d_H_plan_84 (fun z3 => ?_) (fun z3 => ?_)
  · replace hyp := ab_pos z3 hyp
    refine ab_aload_n 117 d_H_plan_116 rfl ?_
    obtain ⟨r5, hc4, hyp⟩ := ab_bind hyp
    refine ab_callV (h' := lay r5) 120 1 6 [] [] d_H_plan_117 ok_H_keepList lk_49 (c_H_keepList hc4) rfl rfl ?_
    refine ab_aload_n 121 d_H_plan_120 rfl ?_
    refine ab_get 124 d_H_plan_121 fd_22 rfl rfl ?_
    obtain ⟨r7, hc6, hyp⟩ := ab_bind hyp
    refine ab_callV (h' := lay r5) 127 1 6 [] [.long r7] d_H_plan_124 ok_B_leastSum lk_44 (c_B_leastSum hc6) rfl rfl ?_
    cases hyp
    exact ab_lreturn d_H_plan_127 rfl rfl rfl (Nat.le_of_ble_eq_true rfl) (Nat.le_of_ble_eq_true rfl)
  · replace hyp := ab_neg z3 hyp
    refine ab_aload_n 88 d_H_plan_87 rfl ?_
    refine ab_iload 90 d_H_plan_88 rfl ?_
    refine ab_iconst 91 d_H_plan_90 (0 : Int32) (by decide) ?_
    obtain ⟨r9, hc8, hyp⟩ := ab_bind hyp
    refine ab_callV (h' := lay M) 94 1 6 [] [.int r9] d_H_plan_91 ok_H_isLiving lk_32 (c_H_isLiving hc8) rfl rfl ?_
    refine ab_if_eq 110 97 d_H_plan_94 (fun z10 => ?_) (fun z10 => ?_)
    · replace hyp := ab_pos z10 hyp
      refine ab_iinc 113 [(5, _), (0, _)] d_H_plan_110 (1 : Int32) (by decide) rfl rfl ?_
      refine ab_goto 75 d_H_plan_113 ?_
      refine ab_pick [1, 0] [(0, _), (5, _)] rfl ?_
      exact hrec75 (v5 + (1 : Int32)) M hyp
    · replace hyp := ab_neg z10 hyp
      refine ab_aload_n 98 d_H_plan_97 rfl ?_
      refine ab_get 101 d_H_plan_98 fd_22 rfl rfl ?_
      refine ab_iload 103 d_H_plan_101 rfl ?_
      refine ab_aload_n 104 d_H_plan_103 rfl ?_
      refine ab_get 107 d_H_plan_104 fd_1 rfl rfl ?_
      obtain ⟨r12, hc11, hyp⟩ := ab_bind hyp
      refine ab_callV (h' := lay r12) 110 1 6 [] [] d_H_plan_107 ok_B_offer lk_50 (c_B_offer hc11) rfl rfl ?_
      refine ab_iinc 113 [(5, _), (0, _)] d_H_plan_110 (1 : Int32) (by decide) rfl rfl ?_
      refine ab_goto 75 d_H_plan_113 ?_
      refine ab_pick [1, 0] [(0, _), (5, _)] rfl ?_
      exact hrec75 (v5 + (1 : Int32)) r12 hyp
theorem q_H_plan_L75 {l : Launch} {D : va_G} {B : Nat} {ad : Nat → Nat} {r : Except String Int64 × Me} : ∀ (F : Nat) (v5 : Int32) (M : Me) , H_plan_L75 F v5 M = some r → ab_V (ab_km l D B ad y_H_plan rm_H_plan (Except.map (fun v => some (.long v)) r.1) (lay r.2)) ad 75 [(0, .ref 0), (5, .int v5)] [] (lay M) 1 6 := by
  intro F
  induction F with
  | zero =>
    intro v5 M hyp
    have h2 : (none : Option (Except String Int64 × Me)) = some r := hyp
    cases h2
  | succ F ih =>
    intro v5 M hyp
    exact q_H_plan_b75 (H_plan_L75 F) ih v5 M hyp
theorem c_H_plan {M : Me} {v1 : Int32} {v2 : Int32} {v3 : Int64} {r : Except String Int64 × Me} (hyp : H_plan M v1 v2 v3 = some r) : ab_Met y_H_plan rm_H_plan [.ref 0, .int v1, .int v2, .long v3] (lay M) (Except.map (fun v => some (.long v)) r.1) (lay r.2) := by
  refine ab_start rfl rfl (Nat.le_of_ble_eq_true rfl) (fun l D B ad => ?_)
  show ab_V _ ad 0 [(0, .ref 0), (1, .int v1), (2, .int v2), (3, .long v3)] [] _ 0 0
  unfold H_plan at hyp
  refine ab_iload_n 1 d_H_plan_0 rfl ?_
  refine ab_iconst 2 d_H_plan_1 (1 : Int32) (by decide) ?_
  refine ab_ic_lt 25 5 d_H_plan_2 (fun z1 => ?_) (fun z1 => ?_)
  · replace hyp := ab_pos z1 hyp
    cases hyp
    exact ab_throw te_9 rfl d_H_plan_25 d_H_plan_28 d_H_plan_29 d_H_plan_31 d_H_plan_34 (Nat.le_of_ble_eq_true rfl) (Nat.le_of_ble_eq_true rfl) rfl rfl (Nat.le_of_ble_eq_true rfl) (Nat.le_of_ble_eq_true rfl)
  · replace hyp := ab_neg z1 hyp
    refine ab_iload_n 6 d_H_plan_5 rfl ?_
    refine ab_bipush 8 d_H_plan_6 (8 : Int32) (by decide) ?_
    refine ab_ic_gt 25 11 d_H_plan_8 (fun z2 => ?_) (fun z2 => ?_)
    · replace hyp := ab_pos z2 hyp
      cases hyp
      exact ab_throw te_9 rfl d_H_plan_25 d_H_plan_28 d_H_plan_29 d_H_plan_31 d_H_plan_34 (Nat.le_of_ble_eq_true rfl) (Nat.le_of_ble_eq_true rfl) rfl rfl (Nat.le_of_ble_eq_true rfl) (Nat.le_of_ble_eq_true rfl)
    · replace hyp := ab_neg z2 hyp
      refine ab_iload_n 12 d_H_plan_11 rfl ?_
      obtain ⟨r4, hc3, hyp⟩ := ab_bind hyp
      refine ab_callS (h' := lay M) 15 0 0 [] [.int r4] d_H_plan_12 ok_J_bitCount lk_46 (c_J_bitCount hc3) rfl ?_
      refine ab_iconst 16 d_H_plan_15 (5 : Int32) (by decide) ?_
      refine ab_ic_gt 25 19 d_H_plan_16 (fun z5 => ?_) (fun z5 => ?_)
      · replace hyp := ab_pos z5 hyp
        cases hyp
        exact ab_throw te_9 rfl d_H_plan_25 d_H_plan_28 d_H_plan_29 d_H_plan_31 d_H_plan_34 (Nat.le_of_ble_eq_true rfl) (Nat.le_of_ble_eq_true rfl) rfl rfl (Nat.le_of_ble_eq_true rfl) (Nat.le_of_ble_eq_true rfl)
      · replace hyp := ab_neg z5 hyp
        refine ab_lload_n 20 d_H_plan_19 rfl ?_
        refine ab_lconst 21 d_H_plan_20 (0 : Int64) (by decide) ?_
        refine ab_lc_ge 35 22 25 d_H_plan_21 d_H_plan_22 (fun z6 => ?_) (fun z6 => ?_)
        · replace hyp := ab_pos z6 hyp
          refine ab_iload_n 36 d_H_plan_35 rfl ?_
          refine ab_aload_n 37 d_H_plan_36 rfl ?_
          refine ab_get 40 d_H_plan_37 fd_1 rfl rfl ?_
          obtain ⟨r8, hc7, hyp⟩ := ab_bind hyp
          refine ab_callV (h' := lay M) 43 0 0 [.int v1] [.int r8, .int v1] d_H_plan_40 ok_P_size lk_0 (c_P_size hc7) rfl rfl ?_
          refine ab_iushr 44 d_H_plan_43 ?_
          refine ab_if_eq 57 47 d_H_plan_44 (fun z9 => ?_) (fun z9 => ?_)
          · replace hyp := ab_pos z9 hyp
            refine ab_aload_n 58 d_H_plan_57 rfl ?_
            refine ab_iload_n 59 d_H_plan_58 rfl ?_
            rcases ab_thrP_cases hyp with ⟨r11, hc10, hyp⟩ | ⟨E12, hc10, hyp⟩
            · refine ab_callV (h' := lay M) 62 1 6 [] [] d_H_plan_59 ok_H_requireLivingFemales lk_47 (c_H_requireLivingFemales hc10) rfl rfl ?_
              refine ab_aload_n 63 d_H_plan_62 rfl ?_
              refine ab_get 66 d_H_plan_63 fd_22 rfl rfl ?_
              refine ab_iload_n 67 d_H_plan_66 rfl ?_
              refine ab_iload_n 68 d_H_plan_67 rfl ?_
              refine ab_lload_n 69 d_H_plan_68 rfl ?_
              obtain ⟨r14, hc13, hyp⟩ := ab_bind hyp
              refine ab_callV (h' := lay r14) 72 1 6 [] [] d_H_plan_69 ok_B_begin lk_48 (c_B_begin hc13) rfl rfl ?_
              refine ab_iconst 73 d_H_plan_72 (0 : Int32) (by decide) ?_
              refine ab_istore 75 [(5, _), (0, _), (1, _), (2, _), (3, _)] d_H_plan_73 rfl ?_
              refine ab_pick [1, 0] [(0, _), (5, _)] rfl ?_
              exact q_H_plan_L75 64 (0 : Int32) r14 hyp
            · cases hyp
              refine ab_callVX (h' := lay M) 1 6 [] d_H_plan_59 ok_H_requireLivingFemales lk_47 (c_H_requireLivingFemales hc10) rfl rfl ?_
              exact ab_out rfl rfl rfl (Nat.le_of_ble_eq_true rfl) (Nat.le_of_ble_eq_true rfl)
          · replace hyp := ab_neg z9 hyp
            cases hyp
            exact ab_throw te_10 rfl d_H_plan_47 d_H_plan_50 d_H_plan_51 d_H_plan_53 d_H_plan_56 (Nat.le_of_ble_eq_true rfl) (Nat.le_of_ble_eq_true rfl) rfl rfl (Nat.le_of_ble_eq_true rfl) (Nat.le_of_ble_eq_true rfl)
        · replace hyp := ab_neg z6 hyp
          cases hyp
          exact ab_throw te_9 rfl d_H_plan_25 d_H_plan_28 d_H_plan_29 d_H_plan_31 d_H_plan_34 (Nat.le_of_ble_eq_true rfl) (Nat.le_of_ble_eq_true rfl) rfl rfl (Nat.le_of_ble_eq_true rfl) (Nat.le_of_ble_eq_true rfl)
/-! H_bull -/
def H_bull (M : Me) (v1 : Int32) : Option (Except String Int32) :=
  ab_thrP (H_requireAnimal M v1) (fun r2 => gd (inb v1 24) (some (.ok (gI M 8 v1)))) (fun E3 => some (.error E3))
def rm_H_bull : Room := { frames := 7, locals := 103, cells := 1, slots := 6 }
theorem c_H_bull {M : Me} {v1 : Int32} {r : Except String Int32} (hyp : H_bull M v1 = some r) : ab_Met y_H_bull rm_H_bull [.ref 0, .int v1] (lay M) (Except.map (fun v => some (.int v)) r) (lay M) := by
  refine ab_start rfl rfl (Nat.le_of_ble_eq_true rfl) (fun l D B ad => ?_)
  show ab_V _ ad 0 [(0, .ref 0), (1, .int v1)] [] _ 0 0
  unfold H_bull at hyp
  refine ab_aload_n 1 d_H_bull_0 rfl ?_
  refine ab_iload_n 2 d_H_bull_1 rfl ?_
  rcases ab_thrP_cases hyp with ⟨r2, hc1, hyp⟩ | ⟨E3, hc1, hyp⟩
  · refine ab_callV (h' := lay M) 5 1 6 [] [] d_H_bull_2 ok_H_requireAnimal lk_2 (c_H_requireAnimal hc1) rfl rfl ?_
    refine ab_aload_n 6 d_H_bull_5 rfl ?_
    refine ab_get 9 d_H_bull_6 fd_21 rfl rfl ?_
    refine ab_iload_n 10 d_H_bull_9 rfl ?_
    obtain ⟨g4, hyp⟩ := ab_gd hyp
    refine ab_ild 8 24 11 d_H_bull_10 rfl g4 ?_
    cases hyp
    exact ab_ireturn d_H_bull_11 rfl rfl rfl (Nat.le_of_ble_eq_true rfl) (Nat.le_of_ble_eq_true rfl)
  · cases hyp
    refine ab_callVX (h' := lay M) 1 6 [] d_H_bull_2 ok_H_requireAnimal lk_2 (c_H_requireAnimal hc1) rfl rfl ?_
    exact ab_out rfl rfl rfl (Nat.le_of_ble_eq_true rfl) (Nat.le_of_ble_eq_true rfl)
/-! H_planned -/
def H_planned_b15 (M : Me) (rec15 : Int64 → Int32 → Option Int64) (v1 : Int64) (v3 : Int32) : Option Int64 :=
  Option.bind (P_size M) (fun r2 => if r2 ≤ v3 then (some v1) else (gd (inb v3 24) (Option.bind (P_kinOf M v3 (gI M 8 v3)) (fun r6 => rec15 (v1 + r6) (v3 + (1 : Int32))))))
def H_planned_L15 (M : Me) : Nat → Int64 → Int32 → Option Int64
  | 0, _, _ => none
  | F + 1, v1, v3 => H_planned_b15 M (H_planned_L15 M F) v1 v3
def H_planned (M : Me) : Option Int64 :=
  if (gF M 1) = (0 : Int32) then (some (-1 : Int64)) else (H_planned_L15 M 64 (0 : Int64) (0 : Int32))
def rm_H_planned : Room := { frames := 1, locals := 22, cells := 0, slots := 0 }
theorem q_H_planned_b15 {l : Launch} {D : va_G} {B : Nat} {ad : Nat → Nat} {r : Int64} (M : Me) (rec15 : Int64 → Int32 → Option Int64) (hrec15 : ∀ (v1 : Int64) (v3 : Int32) , rec15 v1 v3 = some r → ab_V (ab_km l D B ad y_H_planned rm_H_planned (.ok (some (.long r))) (lay M)) ad 15 [(0, .ref 0), (1, .long v1), (3, .int v3)] [] (lay M) 0 0) (v1 : Int64) (v3 : Int32) (hyp : H_planned_b15 M rec15 v1 v3 = some r) : ab_V (ab_km l D B ad y_H_planned rm_H_planned (.ok (some (.long r))) (lay M)) ad 15 [(0, .ref 0), (1, .long v1), (3, .int v3)] [] (lay M) 0 0 := by
  unfold H_planned_b15 at hyp
  refine ab_iload_n 16 d_H_planned_15 rfl ?_
  refine ab_aload_n 17 d_H_planned_16 rfl ?_
  refine ab_get 20 d_H_planned_17 fd_1 rfl rfl ?_
  obtain ⟨r2, hc1, hyp⟩ := ab_bind hyp
  refine ab_callV (h' := lay M) 23 0 0 [.int v3] [.int r2, .int v3] d_H_planned_20 ok_P_size lk_0 (c_P_size hc1) rfl rfl ?_
  refine ab_ic_ge 49 26 d_H_planned_23 (fun z3 => ?_) (fun z3 => ?_)
  · replace hyp := ab_pos z3 hyp
    refine ab_lload_n 50 d_H_planned_49 rfl ?_
    cases hyp
    exact ab_lreturn d_H_planned_50 rfl rfl rfl (Nat.le_of_ble_eq_true rfl) (Nat.le_of_ble_eq_true rfl)
  · replace hyp := ab_neg z3 hyp
    refine ab_lload_n 27 d_H_planned_26 rfl ?_
    refine ab_aload_n 28 d_H_planned_27 rfl ?_
    refine ab_get 31 d_H_planned_28 fd_1 rfl rfl ?_
    refine ab_iload_n 32 d_H_planned_31 rfl ?_
    refine ab_aload_n 33 d_H_planned_32 rfl ?_
    refine ab_get 36 d_H_planned_33 fd_21 rfl rfl ?_
    refine ab_iload_n 37 d_H_planned_36 rfl ?_
    obtain ⟨g4, hyp⟩ := ab_gd hyp
    refine ab_ild 8 24 38 d_H_planned_37 rfl g4 ?_
    obtain ⟨r6, hc5, hyp⟩ := ab_bind hyp
    refine ab_callV (h' := lay M) 41 0 0 [.long v1] [.long r6, .long v1] d_H_planned_38 ok_P_kinOf lk_18 (c_P_kinOf hc5) rfl rfl ?_
    refine ab_ladd 42 d_H_planned_41 ?_
    refine ab_lstore_n 43 [(1, _), (0, _), (3, _)] d_H_planned_42 rfl ?_
    refine ab_iinc 46 [(3, _), (1, _), (0, _)] d_H_planned_43 (1 : Int32) (by decide) rfl rfl ?_
    refine ab_goto 15 d_H_planned_46 ?_
    refine ab_pick [2, 1, 0] [(0, _), (1, _), (3, _)] rfl ?_
    exact hrec15 (v1 + r6) (v3 + (1 : Int32)) hyp
theorem q_H_planned_L15 {l : Launch} {D : va_G} {B : Nat} {ad : Nat → Nat} {r : Int64} (M : Me) : ∀ (F : Nat) (v1 : Int64) (v3 : Int32) , H_planned_L15 M F v1 v3 = some r → ab_V (ab_km l D B ad y_H_planned rm_H_planned (.ok (some (.long r))) (lay M)) ad 15 [(0, .ref 0), (1, .long v1), (3, .int v3)] [] (lay M) 0 0 := by
  intro F
  induction F with
  | zero =>
    intro v1 v3 hyp
    have h2 : (none : Option Int64) = some r := hyp
    cases h2
  | succ F ih =>
    intro v1 v3 hyp
    exact q_H_planned_b15 M (H_planned_L15 M F) ih v1 v3 hyp
theorem c_H_planned {M : Me} {r : Int64} (hyp : H_planned M = some r) : ab_Met y_H_planned rm_H_planned [.ref 0] (lay M) (.ok (some (.long r))) (lay M) := by
  refine ab_start rfl rfl (Nat.le_of_ble_eq_true rfl) (fun l D B ad => ?_)
  show ab_V _ ad 0 [(0, .ref 0)] [] _ 0 0
  unfold H_planned at hyp
  refine ab_aload_n 1 d_H_planned_0 rfl ?_
  refine ab_get 4 d_H_planned_1 fd_23 rfl rfl ?_
  refine ab_if_ne 11 7 d_H_planned_4 (fun z1 => ?_) (fun z1 => ?_)
  · replace hyp := ab_neg z1 hyp
    refine ab_lconst 12 d_H_planned_11 (0 : Int64) (by decide) ?_
    refine ab_lstore_n 13 [(1, _), (0, _)] d_H_planned_12 rfl ?_
    refine ab_iconst 14 d_H_planned_13 (0 : Int32) (by decide) ?_
    refine ab_istore_n 15 [(3, _), (1, _), (0, _)] d_H_planned_14 rfl ?_
    refine ab_pick [2, 1, 0] [(0, _), (1, _), (3, _)] rfl ?_
    exact q_H_planned_L15 M 64 (0 : Int64) (0 : Int32) hyp
  · replace hyp := ab_pos z1 hyp
    refine ab_ldc2 (v := (-1 : Int64)) 10 d_H_planned_7 w_6 ?_
    cases hyp
    exact ab_lreturn d_H_planned_10 rfl rfl rfl (Nat.le_of_ble_eq_true rfl) (Nat.le_of_ble_eq_true rfl)
/-! M_thrown -/
def M_thrown (M : Me) : Option Int32 :=
  some (gF M 4)
def rm_M_thrown : Room := { frames := 0, locals := 0, cells := 0, slots := 0 }
theorem c_M_thrown {M : Me} {r : Int32} (hyp : M_thrown M = some r) : ab_Met y_M_thrown rm_M_thrown [.ref 3] (lay M) (.ok (some (.int r))) (lay M) := by
  refine ab_start rfl rfl (Nat.le_of_ble_eq_true rfl) (fun l D B ad => ?_)
  show ab_V _ ad 0 [(0, .ref 3)] [] _ 0 0
  unfold M_thrown at hyp
  refine ab_aload_n 1 d_M_thrown_0 rfl ?_
  refine ab_get 4 d_M_thrown_1 fd_24 rfl rfl ?_
  cases hyp
  exact ab_ireturn d_M_thrown_4 rfl rfl rfl (Nat.le_of_ble_eq_true rfl) (Nat.le_of_ble_eq_true rfl)
/-! M_refused -/
def M_refused_c35 (s0 : Int32) (M : Me) : Option (Int32 × Me) :=
  if (gF (sF M 4 s0) 4) ≤ (0 : Int32) then (some ((0 : Int32), (sF M 4 s0))) else (some ((1 : Int32), (sF M 4 s0)))
def M_refused (M : Me) (v1 : Int32) (v2 : Int32) (v3 : Int32) (v4 : Int32) : Option (Int32 × Me) :=
  if v1 = (0 : Int32) then (if v2 = (0 : Int32) then (if v3 = (0 : Int32) then (if v4 = (0 : Int32) then (M_refused_c35 (0 : Int32) M) else (M_refused_c35 (4 : Int32) M)) else (M_refused_c35 (3 : Int32) M)) else (M_refused_c35 (2 : Int32) M)) else (M_refused_c35 (1 : Int32) M)
def rm_M_refused : Room := { frames := 0, locals := 0, cells := 0, slots := 0 }
theorem q_M_refused_c35 {l : Launch} {D : va_G} {B : Nat} {ad : Nat → Nat} {r : Int32 × Me} (s0 : Int32) (M : Me) (hyp : M_refused_c35 s0 M = some r) : ab_V (ab_km l D B ad y_M_refused rm_M_refused (.ok (some (.int r.1))) (lay r.2)) ad 35 [(0, .ref 3)] [.int s0, .ref 3] (lay M) 0 0 := by
  unfold M_refused_c35 at hyp
  refine ab_puti 38 d_M_refused_35 fw_5 rfl (lay_F4 _ _) ?_
  refine ab_aload_n 39 d_M_refused_38 rfl ?_
  refine ab_get 42 d_M_refused_39 fd_24 rfl rfl ?_
  refine ab_if_le 49 45 d_M_refused_42 (fun z1 => ?_) (fun z1 => ?_)
  · replace hyp := ab_pos z1 hyp
    refine ab_iconst 50 d_M_refused_49 (0 : Int32) (by decide) ?_
    cases hyp
    exact ab_zreturn d_M_refused_50 rfl rfl rfl rfl (Nat.le_of_ble_eq_true rfl) (Nat.le_of_ble_eq_true rfl)
  · replace hyp := ab_neg z1 hyp
    refine ab_iconst 46 d_M_refused_45 (1 : Int32) (by decide) ?_
    refine ab_goto 50 d_M_refused_46 ?_
    cases hyp
    exact ab_zreturn d_M_refused_50 rfl rfl rfl rfl (Nat.le_of_ble_eq_true rfl) (Nat.le_of_ble_eq_true rfl)
theorem c_M_refused {M : Me} {v1 : Int32} {v2 : Int32} {v3 : Int32} {v4 : Int32} {r : Int32 × Me} (hyp : M_refused M v1 v2 v3 v4 = some r) : ab_Met y_M_refused rm_M_refused [.ref 3, .int v1, .int v2, .int v3, .int v4] (lay M) (.ok (some (.int r.1))) (lay r.2) := by
  refine ab_start rfl rfl (Nat.le_of_ble_eq_true rfl) (fun l D B ad => ?_)
  show ab_V _ ad 0 [(0, .ref 3), (1, .int v1), (2, .int v2), (3, .int v3), (4, .int v4)] [] _ 0 0
  unfold M_refused at hyp
  refine ab_aload_n 1 d_M_refused_0 rfl ?_
  refine ab_iload_n 2 d_M_refused_1 rfl ?_
  refine ab_if_eq 9 5 d_M_refused_2 (fun z1 => ?_) (fun z1 => ?_)
  · replace hyp := ab_pos z1 hyp
    refine ab_iload_n 10 d_M_refused_9 rfl ?_
    refine ab_if_eq 17 13 d_M_refused_10 (fun z2 => ?_) (fun z2 => ?_)
    · replace hyp := ab_pos z2 hyp
      refine ab_iload_n 18 d_M_refused_17 rfl ?_
      refine ab_if_eq 25 21 d_M_refused_18 (fun z3 => ?_) (fun z3 => ?_)
      · replace hyp := ab_pos z3 hyp
        refine ab_iload 27 d_M_refused_25 rfl ?_
        refine ab_if_eq 34 30 d_M_refused_27 (fun z4 => ?_) (fun z4 => ?_)
        · replace hyp := ab_pos z4 hyp
          refine ab_iconst 35 d_M_refused_34 (0 : Int32) (by decide) ?_
          refine ab_pick [0] [(0, _)] rfl ?_
          exact q_M_refused_c35 (0 : Int32) M hyp
        · replace hyp := ab_neg z4 hyp
          refine ab_iconst 31 d_M_refused_30 (4 : Int32) (by decide) ?_
          refine ab_goto 35 d_M_refused_31 ?_
          refine ab_pick [0] [(0, _)] rfl ?_
          exact q_M_refused_c35 (4 : Int32) M hyp
      · replace hyp := ab_neg z3 hyp
        refine ab_iconst 22 d_M_refused_21 (3 : Int32) (by decide) ?_
        refine ab_goto 35 d_M_refused_22 ?_
        refine ab_pick [0] [(0, _)] rfl ?_
        exact q_M_refused_c35 (3 : Int32) M hyp
    · replace hyp := ab_neg z2 hyp
      refine ab_iconst 14 d_M_refused_13 (2 : Int32) (by decide) ?_
      refine ab_goto 35 d_M_refused_14 ?_
      refine ab_pick [0] [(0, _)] rfl ?_
      exact q_M_refused_c35 (2 : Int32) M hyp
  · replace hyp := ab_neg z1 hyp
    refine ab_iconst 6 d_M_refused_5 (1 : Int32) (by decide) ?_
    refine ab_goto 35 d_M_refused_6 ?_
    refine ab_pick [0] [(0, _)] rfl ?_
    exact q_M_refused_c35 (1 : Int32) M hyp
/-! M_is -/
def M_is (M : Me) (v1 : Int32) : Option Int32 :=
  if v1 < (0 : Int32) then (some (0 : Int32)) else (if (gF M 5) ≤ v1 then (some (0 : Int32)) else (some (1 : Int32)))
def rm_M_is : Room := { frames := 0, locals := 0, cells := 0, slots := 0 }
theorem c_M_is {M : Me} {v1 : Int32} {r : Int32} (hyp : M_is M v1 = some r) : ab_Met y_M_is rm_M_is [.ref 3, .int v1] (lay M) (.ok (some (.int r))) (lay M) := by
  refine ab_start rfl rfl (Nat.le_of_ble_eq_true rfl) (fun l D B ad => ?_)
  show ab_V _ ad 0 [(0, .ref 3), (1, .int v1)] [] _ 0 0
  unfold M_is at hyp
  refine ab_iload_n 1 d_M_is_0 rfl ?_
  refine ab_if_lt 16 4 d_M_is_1 (fun z1 => ?_) (fun z1 => ?_)
  · replace hyp := ab_pos z1 hyp
    refine ab_iconst 17 d_M_is_16 (0 : Int32) (by decide) ?_
    cases hyp
    exact ab_zreturn d_M_is_17 rfl rfl rfl rfl (Nat.le_of_ble_eq_true rfl) (Nat.le_of_ble_eq_true rfl)
  · replace hyp := ab_neg z1 hyp
    refine ab_iload_n 5 d_M_is_4 rfl ?_
    refine ab_aload_n 6 d_M_is_5 rfl ?_
    refine ab_get 9 d_M_is_6 fd_25 rfl rfl ?_
    refine ab_ic_ge 16 12 d_M_is_9 (fun z2 => ?_) (fun z2 => ?_)
    · replace hyp := ab_pos z2 hyp
      refine ab_iconst 17 d_M_is_16 (0 : Int32) (by decide) ?_
      cases hyp
      exact ab_zreturn d_M_is_17 rfl rfl rfl rfl (Nat.le_of_ble_eq_true rfl) (Nat.le_of_ble_eq_true rfl)
    · replace hyp := ab_neg z2 hyp
      refine ab_iconst 13 d_M_is_12 (1 : Int32) (by decide) ?_
      refine ab_goto 17 d_M_is_13 ?_
      cases hyp
      exact ab_zreturn d_M_is_17 rfl rfl rfl rfl (Nat.le_of_ble_eq_true rfl) (Nat.le_of_ble_eq_true rfl)
/-! M_isParent -/
def M_isParent (M : Me) (v1 : Int32) : Option Int32 :=
  if v1 = (-1 : Int32) then (some (1 : Int32)) else (Option.bind (M_is M v1) (fun r3 => if r3 = (0 : Int32) then (some (0 : Int32)) else (some (1 : Int32))))
def rm_M_isParent : Room := { frames := 1, locals := 21, cells := 0, slots := 0 }
theorem c_M_isParent {M : Me} {v1 : Int32} {r : Int32} (hyp : M_isParent M v1 = some r) : ab_Met y_M_isParent rm_M_isParent [.ref 3, .int v1] (lay M) (.ok (some (.int r))) (lay M) := by
  refine ab_start rfl rfl (Nat.le_of_ble_eq_true rfl) (fun l D B ad => ?_)
  show ab_V _ ad 0 [(0, .ref 3), (1, .int v1)] [] _ 0 0
  unfold M_isParent at hyp
  refine ab_iload_n 1 d_M_isParent_0 rfl ?_
  refine ab_iconst 2 d_M_isParent_1 (-1 : Int32) (by decide) ?_
  refine ab_ic_eq 13 5 d_M_isParent_2 (fun z1 => ?_) (fun z1 => ?_)
  · replace hyp := ab_pos z1 hyp
    refine ab_iconst 14 d_M_isParent_13 (1 : Int32) (by decide) ?_
    refine ab_goto 18 d_M_isParent_14 ?_
    cases hyp
    exact ab_zreturn d_M_isParent_18 rfl rfl rfl rfl (Nat.le_of_ble_eq_true rfl) (Nat.le_of_ble_eq_true rfl)
  · replace hyp := ab_neg z1 hyp
    refine ab_aload_n 6 d_M_isParent_5 rfl ?_
    refine ab_iload_n 7 d_M_isParent_6 rfl ?_
    obtain ⟨r3, hc2, hyp⟩ := ab_bind hyp
    refine ab_callV (h' := lay M) 10 0 0 [] [.int r3] d_M_isParent_7 ok_M_is lk_51 (c_M_is hc2) rfl rfl ?_
    refine ab_if_eq 17 13 d_M_isParent_10 (fun z4 => ?_) (fun z4 => ?_)
    · replace hyp := ab_pos z4 hyp
      refine ab_iconst 18 d_M_isParent_17 (0 : Int32) (by decide) ?_
      cases hyp
      exact ab_zreturn d_M_isParent_18 rfl rfl rfl rfl (Nat.le_of_ble_eq_true rfl) (Nat.le_of_ble_eq_true rfl)
    · replace hyp := ab_neg z4 hyp
      refine ab_iconst 14 d_M_isParent_13 (1 : Int32) (by decide) ?_
      refine ab_goto 18 d_M_isParent_14 ?_
      cases hyp
      exact ab_zreturn d_M_isParent_18 rfl rfl rfl rfl (Nat.le_of_ble_eq_true rfl) (Nat.le_of_ble_eq_true rfl)
/-! M_fits -/
def M_fits (M : Me) (v1 : Int32) (v2 : Int32) (v3 : Int32) (v4 : Int32) : Option Int32 :=
  if v1 < (0 : Int32) then (some (1 : Int32)) else (gd (inb v1 24) (if (gI M 14 v1) = v2 then (gd (inb v1 24) (if v3 ≤ (gI M 15 v1) then (some (0 : Int32)) else (if v4 ≤ v1 then (some (0 : Int32)) else (some (1 : Int32))))) else (some (0 : Int32))))
def rm_M_fits : Room := { frames := 0, locals := 0, cells := 0, slots := 0 }
theorem c_M_fits {M : Me} {v1 : Int32} {v2 : Int32} {v3 : Int32} {v4 : Int32} {r : Int32} (hyp : M_fits M v1 v2 v3 v4 = some r) : ab_Met y_M_fits rm_M_fits [.ref 3, .int v1, .int v2, .int v3, .int v4] (lay M) (.ok (some (.int r))) (lay M) := by
  refine ab_start rfl rfl (Nat.le_of_ble_eq_true rfl) (fun l D B ad => ?_)
  show ab_V _ ad 0 [(0, .ref 3), (1, .int v1), (2, .int v2), (3, .int v3), (4, .int v4)] [] _ 0 0
  unfold M_fits at hyp
  refine ab_iload_n 1 d_M_fits_0 rfl ?_
  refine ab_if_lt 30 4 d_M_fits_1 (fun z1 => ?_) (fun z1 => ?_)
  · replace hyp := ab_pos z1 hyp
    refine ab_iconst 31 d_M_fits_30 (1 : Int32) (by decide) ?_
    refine ab_goto 35 d_M_fits_31 ?_
    cases hyp
    exact ab_zreturn d_M_fits_35 rfl rfl rfl rfl (Nat.le_of_ble_eq_true rfl) (Nat.le_of_ble_eq_true rfl)
  · replace hyp := ab_neg z1 hyp
    refine ab_aload_n 5 d_M_fits_4 rfl ?_
    refine ab_get 8 d_M_fits_5 fd_26 rfl rfl ?_
    refine ab_iload_n 9 d_M_fits_8 rfl ?_
    obtain ⟨g2, hyp⟩ := ab_gd hyp
    refine ab_ild 14 24 10 d_M_fits_9 rfl g2 ?_
    refine ab_iload_n 11 d_M_fits_10 rfl ?_
    refine ab_ic_ne 34 14 d_M_fits_11 (fun z3 => ?_) (fun z3 => ?_)
    · replace hyp := ab_neg z3 hyp
      refine ab_iconst 35 d_M_fits_34 (0 : Int32) (by decide) ?_
      cases hyp
      exact ab_zreturn d_M_fits_35 rfl rfl rfl rfl (Nat.le_of_ble_eq_true rfl) (Nat.le_of_ble_eq_true rfl)
    · replace hyp := ab_pos z3 hyp
      refine ab_aload_n 15 d_M_fits_14 rfl ?_
      refine ab_get 18 d_M_fits_15 fd_27 rfl rfl ?_
      refine ab_iload_n 19 d_M_fits_18 rfl ?_
      obtain ⟨g4, hyp⟩ := ab_gd hyp
      refine ab_ild 15 24 20 d_M_fits_19 rfl g4 ?_
      refine ab_iload_n 21 d_M_fits_20 rfl ?_
      refine ab_ic_ge 34 24 d_M_fits_21 (fun z5 => ?_) (fun z5 => ?_)
      · replace hyp := ab_pos z5 hyp
        refine ab_iconst 35 d_M_fits_34 (0 : Int32) (by decide) ?_
        cases hyp
        exact ab_zreturn d_M_fits_35 rfl rfl rfl rfl (Nat.le_of_ble_eq_true rfl) (Nat.le_of_ble_eq_true rfl)
      · replace hyp := ab_neg z5 hyp
        refine ab_iload_n 25 d_M_fits_24 rfl ?_
        refine ab_iload 27 d_M_fits_25 rfl ?_
        refine ab_ic_ge 34 30 d_M_fits_27 (fun z6 => ?_) (fun z6 => ?_)
        · replace hyp := ab_pos z6 hyp
          refine ab_iconst 35 d_M_fits_34 (0 : Int32) (by decide) ?_
          cases hyp
          exact ab_zreturn d_M_fits_35 rfl rfl rfl rfl (Nat.le_of_ble_eq_true rfl) (Nat.le_of_ble_eq_true rfl)
        · replace hyp := ab_neg z6 hyp
          refine ab_iconst 31 d_M_fits_30 (1 : Int32) (by decide) ?_
          refine ab_goto 35 d_M_fits_31 ?_
          cases hyp
          exact ab_zreturn d_M_fits_35 rfl rfl rfl rfl (Nat.le_of_ble_eq_true rfl) (Nat.le_of_ble_eq_true rfl)
/-! M_kinOf -/
def M_kinOf (M : Me) (v1 : Int32) (v2 : Int32) : Option Int64 :=
  if v1 < (0 : Int32) then (some (0 : Int64)) else (if (0 : Int32) ≤ v2 then (gd (inb (((24 : Int32) * v1) + v2) 576) (some (gL M 4 (((24 : Int32) * v1) + v2)))) else (some (0 : Int64)))
def rm_M_kinOf : Room := { frames := 0, locals := 0, cells := 0, slots := 0 }
theorem c_M_kinOf {M : Me} {v1 : Int32} {v2 : Int32} {r : Int64} (hyp : M_kinOf M v1 v2 = some r) : ab_Met y_M_kinOf rm_M_kinOf [.ref 3, .int v1, .int v2] (lay M) (.ok (some (.long r))) (lay M) := by
  refine ab_start rfl rfl (Nat.le_of_ble_eq_true rfl) (fun l D B ad => ?_)
  show ab_V _ ad 0 [(0, .ref 3), (1, .int v1), (2, .int v2)] [] _ 0 0
  unfold M_kinOf at hyp
  refine ab_iload_n 1 d_M_kinOf_0 rfl ?_
  refine ab_if_lt 8 4 d_M_kinOf_1 (fun z1 => ?_) (fun z1 => ?_)
  · replace hyp := ab_pos z1 hyp
    refine ab_lconst 9 d_M_kinOf_8 (0 : Int64) (by decide) ?_
    refine ab_goto 23 d_M_kinOf_9 ?_
    cases hyp
    exact ab_lreturn d_M_kinOf_23 rfl rfl rfl (Nat.le_of_ble_eq_true rfl) (Nat.le_of_ble_eq_true rfl)
  · replace hyp := ab_neg z1 hyp
    refine ab_iload_n 5 d_M_kinOf_4 rfl ?_
    refine ab_if_ge 12 8 d_M_kinOf_5 (fun z2 => ?_) (fun z2 => ?_)
    · replace hyp := ab_pos z2 hyp
      refine ab_aload_n 13 d_M_kinOf_12 rfl ?_
      refine ab_get 16 d_M_kinOf_13 fd_28 rfl rfl ?_
      refine ab_bipush 18 d_M_kinOf_16 (24 : Int32) (by decide) ?_
      refine ab_iload_n 19 d_M_kinOf_18 rfl ?_
      refine ab_imul 20 d_M_kinOf_19 ?_
      refine ab_iload_n 21 d_M_kinOf_20 rfl ?_
      refine ab_iadd 22 d_M_kinOf_21 ?_
      obtain ⟨g3, hyp⟩ := ab_gd hyp
      refine ab_lld 4 576 23 d_M_kinOf_22 rfl g3 ?_
      cases hyp
      exact ab_lreturn d_M_kinOf_23 rfl rfl rfl (Nat.le_of_ble_eq_true rfl) (Nat.le_of_ble_eq_true rfl)
    · replace hyp := ab_neg z2 hyp
      refine ab_lconst 9 d_M_kinOf_8 (0 : Int64) (by decide) ?_
      refine ab_goto 23 d_M_kinOf_9 ?_
      cases hyp
      exact ab_lreturn d_M_kinOf_23 rfl rfl rfl (Nat.le_of_ble_eq_true rfl) (Nat.le_of_ble_eq_true rfl)
/-! M_fill -/
def M_fill_b12 (rec2 : Int32 → Me → Option Me) (rec12 : Int32 → Int32 → Me → Option Me) (v1 : Int32) (v2 : Int32) (M : Me) : Option Me :=
  if v1 ≤ v2 then (gd (inb v1 24) (gd (inb v1 24) (Option.bind (M_kinOf M (gI M 12 v1) (gI M 13 v1)) (fun r5 => gd (inb v1 24) (gd (inb v1 24) (gd (inb (((24 : Int32) * v1) + v1) 576) (rec2 (v1 + (1 : Int32)) (sL (sL M 5 v1 r5) 4 (((24 : Int32) * v1) + v1) (((1125899906842624 : Int64) + (gL (sL M 5 v1 r5) 5 v1)) / (2 : Int64)))))))))) else (gd (inb v1 24) (Option.bind (M_kinOf M v2 (gI M 12 v1)) (fun r11 => gd (inb v1 24) (Option.bind (M_kinOf M v2 (gI M 13 v1)) (fun r14 => gd (inb (((24 : Int32) * v1) + v2) 576) (gd (inb (((24 : Int32) * v2) + v1) 576) (rec12 v1 (v2 + (1 : Int32)) (sL (sL M 4 (((24 : Int32) * v1) + v2) ((r11 + r14) / (2 : Int64))) 4 (((24 : Int32) * v2) + v1) ((r11 + r14) / (2 : Int64))))))))))
def M_fill_L12 (rec2 : Int32 → Me → Option Me) : Nat → Int32 → Int32 → Me → Option Me
  | 0, _, _, _ => none
  | F + 1, v1, v2, M => M_fill_b12 rec2 (M_fill_L12 rec2 F) v1 v2 M
def M_fill_b2 (rec2 : Int32 → Me → Option Me) (v1 : Int32) (M : Me) : Option Me :=
  if (gF M 5) ≤ v1 then (some M) else (M_fill_L12 rec2 64 v1 (0 : Int32) M)
def M_fill_L2 : Nat → Int32 → Me → Option Me
  | 0, _, _ => none
  | F + 1, v1, M => M_fill_b2 (M_fill_L2 F) v1 M
def M_fill (M : Me) : Option Me :=
  M_fill_L2 64 (0 : Int32) M
def rm_M_fill : Room := { frames := 1, locals := 22, cells := 0, slots := 0 }
theorem q_M_fill_b12 {l : Launch} {D : va_G} {B : Nat} {ad : Nat → Nat} {r : Me} (rec2 : Int32 → Me → Option Me) (hrec2 : ∀ (v1 : Int32) (M : Me) , rec2 v1 M = some r → ab_V (ab_km l D B ad y_M_fill rm_M_fill (.ok none) (lay r)) ad 2 [(0, .ref 3), (1, .int v1)] [] (lay M) 0 0) (rec12 : Int32 → Int32 → Me → Option Me) (hrec12 : ∀ (v1 : Int32) (v2 : Int32) (M : Me) , rec12 v1 v2 M = some r → ab_V (ab_km l D B ad y_M_fill rm_M_fill (.ok none) (lay r)) ad 12 [(0, .ref 3), (1, .int v1), (2, .int v2)] [] (lay M) 0 0) (v1 : Int32) (v2 : Int32) (M : Me) (hyp : M_fill_b12 rec2 rec12 v1 v2 M = some r) : ab_V (ab_km l D B ad y_M_fill rm_M_fill (.ok none) (lay r)) ad 12 [(0, .ref 3), (1, .int v1), (2, .int v2)] [] (lay M) 0 0 := by
  unfold M_fill_b12 at hyp
  refine ab_iload_n 13 d_M_fill_12 rfl ?_
  refine ab_iload_n 14 d_M_fill_13 rfl ?_
  refine ab_ic_ge 75 17 d_M_fill_14 (fun z1 => ?_) (fun z1 => ?_)
  · replace hyp := ab_pos z1 hyp
    refine ab_aload_n 76 d_M_fill_75 rfl ?_
    refine ab_get 79 d_M_fill_76 fd_29 rfl rfl ?_
    refine ab_iload_n 80 d_M_fill_79 rfl ?_
    refine ab_aload_n 81 d_M_fill_80 rfl ?_
    refine ab_aload_n 82 d_M_fill_81 rfl ?_
    refine ab_get 85 d_M_fill_82 fd_30 rfl rfl ?_
    refine ab_iload_n 86 d_M_fill_85 rfl ?_
    obtain ⟨g2, hyp⟩ := ab_gd hyp
    refine ab_ild 12 24 87 d_M_fill_86 rfl g2 ?_
    refine ab_aload_n 88 d_M_fill_87 rfl ?_
    refine ab_get 91 d_M_fill_88 fd_31 rfl rfl ?_
    refine ab_iload_n 92 d_M_fill_91 rfl ?_
    obtain ⟨g3, hyp⟩ := ab_gd hyp
    refine ab_ild 13 24 93 d_M_fill_92 rfl g3 ?_
    obtain ⟨r5, hc4, hyp⟩ := ab_bind hyp
    refine ab_callV (h' := lay M) 96 0 0 [.int v1, .ref 34] [.long r5, .int v1, .ref 34] d_M_fill_93 ok_M_kinOf lk_52 (c_M_kinOf hc4) rfl rfl ?_
    obtain ⟨g6, hyp⟩ := ab_gd hyp
    refine ab_lst 5 24 97 d_M_fill_96 rfl g6 lay_L5 ?_
    refine ab_aload_n 98 d_M_fill_97 rfl ?_
    refine ab_get 101 d_M_fill_98 fd_28 rfl rfl ?_
    refine ab_bipush 103 d_M_fill_101 (24 : Int32) (by decide) ?_
    refine ab_iload_n 104 d_M_fill_103 rfl ?_
    refine ab_imul 105 d_M_fill_104 ?_
    refine ab_iload_n 106 d_M_fill_105 rfl ?_
    refine ab_iadd 107 d_M_fill_106 ?_
    refine ab_ldc2 (v := (1125899906842624 : Int64)) 110 d_M_fill_107 w_7 ?_
    refine ab_aload_n 111 d_M_fill_110 rfl ?_
    refine ab_get 114 d_M_fill_111 fd_29 rfl rfl ?_
    refine ab_iload_n 115 d_M_fill_114 rfl ?_
    obtain ⟨g7, hyp⟩ := ab_gd hyp
    refine ab_lld 5 24 116 d_M_fill_115 rfl g7 ?_
    refine ab_ladd 117 d_M_fill_116 ?_
    refine ab_ldc2 (v := (2 : Int64)) 120 d_M_fill_117 w_8 ?_
    refine ab_ldiv 121 d_M_fill_120 (by decide) ?_
    obtain ⟨g8, hyp⟩ := ab_gd hyp
    refine ab_lst 4 576 122 d_M_fill_121 rfl g8 lay_L4 ?_
    refine ab_iinc 125 [(1, _), (0, _), (2, _)] d_M_fill_122 (1 : Int32) (by decide) rfl rfl ?_
    refine ab_goto 2 d_M_fill_125 ?_
    refine ab_pick [1, 0] [(0, _), (1, _)] rfl ?_
    exact hrec2 (v1 + (1 : Int32)) (sL (sL M 5 v1 r5) 4 (((24 : Int32) * v1) + v1) (((1125899906842624 : Int64) + (gL (sL M 5 v1 r5) 5 v1)) / (2 : Int64))) hyp
  · replace hyp := ab_neg z1 hyp
    refine ab_aload_n 18 d_M_fill_17 rfl ?_
    refine ab_iload_n 19 d_M_fill_18 rfl ?_
    refine ab_aload_n 20 d_M_fill_19 rfl ?_
    refine ab_get 23 d_M_fill_20 fd_30 rfl rfl ?_
    refine ab_iload_n 24 d_M_fill_23 rfl ?_
    obtain ⟨g9, hyp⟩ := ab_gd hyp
    refine ab_ild 12 24 25 d_M_fill_24 rfl g9 ?_
    obtain ⟨r11, hc10, hyp⟩ := ab_bind hyp
    refine ab_callV (h' := lay M) 28 0 0 [] [.long r11] d_M_fill_25 ok_M_kinOf lk_52 (c_M_kinOf hc10) rfl rfl ?_
    refine ab_aload_n 29 d_M_fill_28 rfl ?_
    refine ab_iload_n 30 d_M_fill_29 rfl ?_
    refine ab_aload_n 31 d_M_fill_30 rfl ?_
    refine ab_get 34 d_M_fill_31 fd_31 rfl rfl ?_
    refine ab_iload_n 35 d_M_fill_34 rfl ?_
    obtain ⟨g12, hyp⟩ := ab_gd hyp
    refine ab_ild 13 24 36 d_M_fill_35 rfl g12 ?_
    obtain ⟨r14, hc13, hyp⟩ := ab_bind hyp
    refine ab_callV (h' := lay M) 39 0 0 [.long r11] [.long r14, .long r11] d_M_fill_36 ok_M_kinOf lk_52 (c_M_kinOf hc13) rfl rfl ?_
    refine ab_ladd 40 d_M_fill_39 ?_
    refine ab_ldc2 (v := (2 : Int64)) 43 d_M_fill_40 w_8 ?_
    refine ab_ldiv 44 d_M_fill_43 (by decide) ?_
    refine ab_lstore_n 45 [(3, _), (0, _), (1, _), (2, _)] d_M_fill_44 rfl ?_
    refine ab_aload_n 46 d_M_fill_45 rfl ?_
    refine ab_get 49 d_M_fill_46 fd_28 rfl rfl ?_
    refine ab_bipush 51 d_M_fill_49 (24 : Int32) (by decide) ?_
    refine ab_iload_n 52 d_M_fill_51 rfl ?_
    refine ab_imul 53 d_M_fill_52 ?_
    refine ab_iload_n 54 d_M_fill_53 rfl ?_
    refine ab_iadd 55 d_M_fill_54 ?_
    refine ab_lload_n 56 d_M_fill_55 rfl ?_
    obtain ⟨g15, hyp⟩ := ab_gd hyp
    refine ab_lst 4 576 57 d_M_fill_56 rfl g15 lay_L4 ?_
    refine ab_aload_n 58 d_M_fill_57 rfl ?_
    refine ab_get 61 d_M_fill_58 fd_28 rfl rfl ?_
    refine ab_bipush 63 d_M_fill_61 (24 : Int32) (by decide) ?_
    refine ab_iload_n 64 d_M_fill_63 rfl ?_
    refine ab_imul 65 d_M_fill_64 ?_
    refine ab_iload_n 66 d_M_fill_65 rfl ?_
    refine ab_iadd 67 d_M_fill_66 ?_
    refine ab_lload_n 68 d_M_fill_67 rfl ?_
    obtain ⟨g16, hyp⟩ := ab_gd hyp
    refine ab_lst 4 576 69 d_M_fill_68 rfl g16 lay_L4 ?_
    refine ab_iinc 72 [(2, _), (3, _), (0, _), (1, _)] d_M_fill_69 (1 : Int32) (by decide) rfl rfl ?_
    refine ab_goto 12 d_M_fill_72 ?_
    refine ab_pick [2, 3, 0] [(0, _), (1, _), (2, _)] rfl ?_
    exact hrec12 v1 (v2 + (1 : Int32)) (sL (sL M 4 (((24 : Int32) * v1) + v2) ((r11 + r14) / (2 : Int64))) 4 (((24 : Int32) * v2) + v1) ((r11 + r14) / (2 : Int64))) hyp
theorem q_M_fill_L12 {l : Launch} {D : va_G} {B : Nat} {ad : Nat → Nat} {r : Me} (rec2 : Int32 → Me → Option Me) (hrec2 : ∀ (v1 : Int32) (M : Me) , rec2 v1 M = some r → ab_V (ab_km l D B ad y_M_fill rm_M_fill (.ok none) (lay r)) ad 2 [(0, .ref 3), (1, .int v1)] [] (lay M) 0 0) : ∀ (F : Nat) (v1 : Int32) (v2 : Int32) (M : Me) , M_fill_L12 rec2 F v1 v2 M = some r → ab_V (ab_km l D B ad y_M_fill rm_M_fill (.ok none) (lay r)) ad 12 [(0, .ref 3), (1, .int v1), (2, .int v2)] [] (lay M) 0 0 := by
  intro F
  induction F with
  | zero =>
    intro v1 v2 M hyp
    have h2 : (none : Option Me) = some r := hyp
    cases h2
  | succ F ih =>
    intro v1 v2 M hyp
    exact q_M_fill_b12 rec2 hrec2 (M_fill_L12 rec2 F) ih v1 v2 M hyp
theorem q_M_fill_b2 {l : Launch} {D : va_G} {B : Nat} {ad : Nat → Nat} {r : Me} (rec2 : Int32 → Me → Option Me) (hrec2 : ∀ (v1 : Int32) (M : Me) , rec2 v1 M = some r → ab_V (ab_km l D B ad y_M_fill rm_M_fill (.ok none) (lay r)) ad 2 [(0, .ref 3), (1, .int v1)] [] (lay M) 0 0) (v1 : Int32) (M : Me) (hyp : M_fill_b2 rec2 v1 M = some r) : ab_V (ab_km l D B ad y_M_fill rm_M_fill (.ok none) (lay r)) ad 2 [(0, .ref 3), (1, .int v1)] [] (lay M) 0 0 := by
  unfold M_fill_b2 at hyp
  refine ab_iload_n 3 d_M_fill_2 rfl ?_
  refine ab_aload_n 4 d_M_fill_3 rfl ?_
  refine ab_get 7 d_M_fill_4 fd_25 rfl rfl ?_
  refine ab_ic_ge 128 10 d_M_fill_7 (fun z1 => ?_) (fun z1 => ?_)
  · replace hyp := ab_pos z1 hyp
    cases hyp
    exact ab_return d_M_fill_128 rfl rfl rfl (Nat.le_of_ble_eq_true rfl) (Nat.le_of_ble_eq_true rfl)
  · replace hyp := ab_neg z1 hyp
    refine ab_iconst 11 d_M_fill_10 (0 : Int32) (by decide) ?_
    refine ab_istore_n 12 [(2, _), (0, _), (1, _)] d_M_fill_11 rfl ?_
    refine ab_pick [1, 2, 0] [(0, _), (1, _), (2, _)] rfl ?_
    exact q_M_fill_L12 rec2 hrec2 64 v1 (0 : Int32) M hyp
theorem q_M_fill_L2 {l : Launch} {D : va_G} {B : Nat} {ad : Nat → Nat} {r : Me} : ∀ (F : Nat) (v1 : Int32) (M : Me) , M_fill_L2 F v1 M = some r → ab_V (ab_km l D B ad y_M_fill rm_M_fill (.ok none) (lay r)) ad 2 [(0, .ref 3), (1, .int v1)] [] (lay M) 0 0 := by
  intro F
  induction F with
  | zero =>
    intro v1 M hyp
    have h2 : (none : Option Me) = some r := hyp
    cases h2
  | succ F ih =>
    intro v1 M hyp
    exact q_M_fill_b2 (M_fill_L2 F) ih v1 M hyp
theorem c_M_fill {M : Me} {r : Me} (hyp : M_fill M = some r) : ab_Met y_M_fill rm_M_fill [.ref 3] (lay M) (.ok none) (lay r) := by
  refine ab_start rfl rfl (Nat.le_of_ble_eq_true rfl) (fun l D B ad => ?_)
  show ab_V _ ad 0 [(0, .ref 3)] [] _ 0 0
  unfold M_fill at hyp
  refine ab_iconst 1 d_M_fill_0 (0 : Int32) (by decide) ?_
  refine ab_istore_n 2 [(1, _), (0, _)] d_M_fill_1 rfl ?_
  refine ab_pick [1, 0] [(0, _), (1, _)] rfl ?_
  exact q_M_fill_L2 64 (0 : Int32) M hyp
