/-! M_enter -/
def M_enter_c126 (v1 : Int32) (v2 : Int32) (v3 : Int32) (v4 : Int32) (s0 : Int32) (s1 : Int32) (s2 : Int32) (s3 : Int32) (M : Me) : Option (Int32 × Me) :=
  Option.bind (M_refused M s3 s2 s1 s0) (fun r2 => if r2.1 = (0 : Int32) then (gd (inb (gF r2.2 5) 24) (gd (inb (gF (sI r2.2 12 (gF r2.2 5) v1) 5) 24) (gd (inb (gF (sI (sI r2.2 12 (gF r2.2 5) v1) 13 (gF (sI r2.2 12 (gF r2.2 5) v1) 5) v2) 5) 24) (gd (inb (gF (sI (sI (sI r2.2 12 (gF r2.2 5) v1) 13 (gF (sI r2.2 12 (gF r2.2 5) v1) 5) v2) 14 (gF (sI (sI r2.2 12 (gF r2.2 5) v1) 13 (gF (sI r2.2 12 (gF r2.2 5) v1) 5) v2) 5) v3) 5) 24) (Option.bind (M_fill (sF (sI (sI (sI (sI r2.2 12 (gF r2.2 5) v1) 13 (gF (sI r2.2 12 (gF r2.2 5) v1) 5) v2) 14 (gF (sI (sI r2.2 12 (gF r2.2 5) v1) 13 (gF (sI r2.2 12 (gF r2.2 5) v1) 5) v2) 5) v3) 15 (gF (sI (sI (sI r2.2 12 (gF r2.2 5) v1) 13 (gF (sI r2.2 12 (gF r2.2 5) v1) 5) v2) 14 (gF (sI (sI r2.2 12 (gF r2.2 5) v1) 13 (gF (sI r2.2 12 (gF r2.2 5) v1) 5) v2) 5) v3) 5) v4) 5 ((gF (sI (sI (sI (sI r2.2 12 (gF r2.2 5) v1) 13 (gF (sI r2.2 12 (gF r2.2 5) v1) 5) v2) 14 (gF (sI (sI r2.2 12 (gF r2.2 5) v1) 13 (gF (sI r2.2 12 (gF r2.2 5) v1) 5) v2) 5) v3) 15 (gF (sI (sI (sI r2.2 12 (gF r2.2 5) v1) 13 (gF (sI r2.2 12 (gF r2.2 5) v1) 5) v2) 14 (gF (sI (sI r2.2 12 (gF r2.2 5) v1) 13 (gF (sI r2.2 12 (gF r2.2 5) v1) 5) v2) 5) v3) 5) v4) 5) + (1 : Int32)))) (fun r9 => some (((gF r9 5) - (1 : Int32)), r9))))))) else (some ((0 : Int32), r2.2)))
def M_enter_c112 (v1 : Int32) (v2 : Int32) (v3 : Int32) (v4 : Int32) (s0 : Int32) (s1 : Int32) (s2 : Int32) (M : Me) : Option (Int32 × Me) :=
  if (gF M 5) = (24 : Int32) then (M_enter_c126 v1 v2 v3 v4 (1 : Int32) s0 s1 s2 M) else (M_enter_c126 v1 v2 v3 v4 (0 : Int32) s0 s1 s2 M)
def M_enter_c92 (v1 : Int32) (v2 : Int32) (v3 : Int32) (v4 : Int32) (v5 : Int32) (v6 : Int32) (s0 : Int32) (M : Me) : Option (Int32 × Me) :=
  if v5 = (0 : Int32) then (if v6 = (0 : Int32) then (M_enter_c112 v1 v2 v3 v4 (1 : Int32) (1 : Int32) s0 M) else (M_enter_c112 v1 v2 v3 v4 (0 : Int32) (1 : Int32) s0 M)) else (if v6 = (0 : Int32) then (M_enter_c112 v1 v2 v3 v4 (1 : Int32) (0 : Int32) s0 M) else (M_enter_c112 v1 v2 v3 v4 (0 : Int32) (0 : Int32) s0 M))
def M_enter_c63 (v1 : Int32) (v2 : Int32) (v3 : Int32) (v4 : Int32) (v5 : Int32) (s0 : Int32) (M : Me) : Option (Int32 × Me) :=
  if v3 < (0 : Int32) then (M_enter_c92 v1 v2 v3 v4 v5 s0 (1 : Int32) M) else (if (1 : Int32) < v3 then (M_enter_c92 v1 v2 v3 v4 v5 s0 (1 : Int32) M) else (if v4 < (0 : Int32) then (M_enter_c92 v1 v2 v3 v4 v5 s0 (1 : Int32) M) else (if v4 ≤ (60 : Int32) then (M_enter_c92 v1 v2 v3 v4 v5 s0 (0 : Int32) M) else (M_enter_c92 v1 v2 v3 v4 v5 s0 (1 : Int32) M))))
def M_enter_c21 (v1 : Int32) (v2 : Int32) (v3 : Int32) (v4 : Int32) (s0 : Int32) (M : Me) : Option (Int32 × Me) :=
  if s0 = (0 : Int32) then (M_enter_c63 v1 v2 v3 v4 s0 (0 : Int32) M) else (Option.bind (M_fits M v1 (0 : Int32) v4 (gF M 5)) (fun r3 => if r3 = (0 : Int32) then (M_enter_c63 v1 v2 v3 v4 s0 (0 : Int32) M) else (Option.bind (M_fits M v2 (1 : Int32) v4 (gF M 5)) (fun r6 => if r6 = (0 : Int32) then (M_enter_c63 v1 v2 v3 v4 s0 (0 : Int32) M) else (M_enter_c63 v1 v2 v3 v4 s0 (1 : Int32) M)))))
def M_enter (M : Me) (v1 : Int32) (v2 : Int32) (v3 : Int32) (v4 : Int32) : Option (Int32 × Me) :=
  Option.bind (M_isParent M v1) (fun r2 => if r2 = (0 : Int32) then (M_enter_c21 v1 v2 v3 v4 (0 : Int32) M) else (Option.bind (M_isParent M v2) (fun r5 => if r5 = (0 : Int32) then (M_enter_c21 v1 v2 v3 v4 (0 : Int32) M) else (M_enter_c21 v1 v2 v3 v4 (1 : Int32) M))))
def rm_M_enter : Room := { frames := 2, locals := 46, cells := 0, slots := 0 }
theorem q_M_enter_c126 {l : Launch} {D : va_G} {B : Nat} {ad : Nat → Nat} {r : Int32 × Me} (v1 : Int32) (v2 : Int32) (v3 : Int32) (v4 : Int32) (s0 : Int32) (s1 : Int32) (s2 : Int32) (s3 : Int32) (M : Me) (hyp : M_enter_c126 v1 v2 v3 v4 s0 s1 s2 s3 M = some r) : ab_V (ab_km l D B ad y_M_enter rm_M_enter (.ok (some (.int r.1))) (lay r.2)) ad 126 [(0, .ref 3), (1, .int v1), (2, .int v2), (3, .int v3), (4, .int v4)] [.int s0, .int s1, .int s2, .int s3, .ref 3] (lay M) 0 0 := by
  unfold M_enter_c126 at hyp
  obtain ⟨r2, hc1, hyp⟩ := ab_bind hyp
  refine ab_callV (h' := lay r2.2) 129 0 0 [] [.int r2.1] d_M_enter_126 ok_M_refused lk_55 (c_M_refused hc1) rfl rfl ?_
  refine ab_if_eq 134 132 d_M_enter_129 (fun z3 => ?_) (fun z3 => ?_)
  · replace hyp := ab_pos z3 hyp
    refine ab_aload_n 135 d_M_enter_134 rfl ?_
    refine ab_get 138 d_M_enter_135 fd_30 rfl rfl ?_
    refine ab_aload_n 139 d_M_enter_138 rfl ?_
    refine ab_get 142 d_M_enter_139 fd_25 rfl rfl ?_
    refine ab_iload_n 143 d_M_enter_142 rfl ?_
    obtain ⟨g4, hyp⟩ := ab_gd hyp
    refine ab_ist 12 24 144 d_M_enter_143 rfl g4 lay_I12 ?_
    refine ab_aload_n 145 d_M_enter_144 rfl ?_
    refine ab_get 148 d_M_enter_145 fd_31 rfl rfl ?_
    refine ab_aload_n 149 d_M_enter_148 rfl ?_
    refine ab_get 152 d_M_enter_149 fd_25 rfl rfl ?_
    refine ab_iload_n 153 d_M_enter_152 rfl ?_
    obtain ⟨g5, hyp⟩ := ab_gd hyp
    refine ab_ist 13 24 154 d_M_enter_153 rfl g5 lay_I13 ?_
    refine ab_aload_n 155 d_M_enter_154 rfl ?_
    refine ab_get 158 d_M_enter_155 fd_26 rfl rfl ?_
    refine ab_aload_n 159 d_M_enter_158 rfl ?_
    refine ab_get 162 d_M_enter_159 fd_25 rfl rfl ?_
    refine ab_iload_n 163 d_M_enter_162 rfl ?_
    obtain ⟨g6, hyp⟩ := ab_gd hyp
    refine ab_ist 14 24 164 d_M_enter_163 rfl g6 lay_I14 ?_
    refine ab_aload_n 165 d_M_enter_164 rfl ?_
    refine ab_get 168 d_M_enter_165 fd_27 rfl rfl ?_
    refine ab_aload_n 169 d_M_enter_168 rfl ?_
    refine ab_get 172 d_M_enter_169 fd_25 rfl rfl ?_
    refine ab_iload 174 d_M_enter_172 rfl ?_
    obtain ⟨g7, hyp⟩ := ab_gd hyp
    refine ab_ist 15 24 175 d_M_enter_174 rfl g7 lay_I15 ?_
    refine ab_aload_n 176 d_M_enter_175 rfl ?_
    refine ab_dupr 177 d_M_enter_176 ?_
    refine ab_get 180 d_M_enter_177 fd_25 rfl rfl ?_
    refine ab_iconst 181 d_M_enter_180 (1 : Int32) (by decide) ?_
    refine ab_iadd 182 d_M_enter_181 ?_
    refine ab_puti 185 d_M_enter_182 fw_6 rfl (lay_F5 _ _) ?_
    refine ab_aload_n 186 d_M_enter_185 rfl ?_
    obtain ⟨r9, hc8, hyp⟩ := ab_bind hyp
    refine ab_callV (h' := lay r9) 189 0 0 [] [] d_M_enter_186 ok_M_fill lk_56 (c_M_fill hc8) rfl rfl ?_
    refine ab_aload_n 190 d_M_enter_189 rfl ?_
    refine ab_get 193 d_M_enter_190 fd_25 rfl rfl ?_
    refine ab_iconst 194 d_M_enter_193 (1 : Int32) (by decide) ?_
    refine ab_isub 195 d_M_enter_194 ?_
    cases hyp
    exact ab_ireturn d_M_enter_195 rfl rfl rfl (Nat.le_of_ble_eq_true rfl) (Nat.le_of_ble_eq_true rfl)
  · replace hyp := ab_neg z3 hyp
    refine ab_iconst 133 d_M_enter_132 (0 : Int32) (by decide) ?_
    cases hyp
    exact ab_ireturn d_M_enter_133 rfl rfl rfl (Nat.le_of_ble_eq_true rfl) (Nat.le_of_ble_eq_true rfl)
theorem q_M_enter_c112 {l : Launch} {D : va_G} {B : Nat} {ad : Nat → Nat} {r : Int32 × Me} (v1 : Int32) (v2 : Int32) (v3 : Int32) (v4 : Int32) (s0 : Int32) (s1 : Int32) (s2 : Int32) (M : Me) (hyp : M_enter_c112 v1 v2 v3 v4 s0 s1 s2 M = some r) : ab_V (ab_km l D B ad y_M_enter rm_M_enter (.ok (some (.int r.1))) (lay r.2)) ad 112 [(0, .ref 3), (1, .int v1), (2, .int v2), (3, .int v3), (4, .int v4)] [.int s0, .int s1, .int s2, .ref 3] (lay M) 0 0 := by
  unfold M_enter_c112 at hyp
  refine ab_aload_n 113 d_M_enter_112 rfl ?_
  refine ab_get 116 d_M_enter_113 fd_25 rfl rfl ?_
  refine ab_bipush 118 d_M_enter_116 (24 : Int32) (by decide) ?_
  refine ab_ic_ne 125 121 d_M_enter_118 (fun z1 => ?_) (fun z1 => ?_)
  · replace hyp := ab_neg z1 hyp
    refine ab_iconst 126 d_M_enter_125 (0 : Int32) (by decide) ?_
    refine ab_pick [0, 1, 2, 3, 4] [(0, _), (1, _), (2, _), (3, _), (4, _)] rfl ?_
    exact q_M_enter_c126 v1 v2 v3 v4 (0 : Int32) s0 s1 s2 M hyp
  · replace hyp := ab_pos z1 hyp
    refine ab_iconst 122 d_M_enter_121 (1 : Int32) (by decide) ?_
    refine ab_goto 126 d_M_enter_122 ?_
    refine ab_pick [0, 1, 2, 3, 4] [(0, _), (1, _), (2, _), (3, _), (4, _)] rfl ?_
    exact q_M_enter_c126 v1 v2 v3 v4 (1 : Int32) s0 s1 s2 M hyp
theorem q_M_enter_c92 {l : Launch} {D : va_G} {B : Nat} {ad : Nat → Nat} {r : Int32 × Me} (v1 : Int32) (v2 : Int32) (v3 : Int32) (v4 : Int32) (v5 : Int32) (v6 : Int32) (s0 : Int32) (M : Me) (hyp : M_enter_c92 v1 v2 v3 v4 v5 v6 s0 M = some r) : ab_V (ab_km l D B ad y_M_enter rm_M_enter (.ok (some (.int r.1))) (lay r.2)) ad 92 [(0, .ref 3), (1, .int v1), (2, .int v2), (3, .int v3), (4, .int v4), (5, .int v5), (6, .int v6)] [.int s0, .ref 3] (lay M) 0 0 := by
  unfold M_enter_c92 at hyp
  refine ab_iload 94 d_M_enter_92 rfl ?_
  refine ab_if_ne 101 97 d_M_enter_94 (fun z1 => ?_) (fun z1 => ?_)
  · replace hyp := ab_neg z1 hyp
    refine ab_iconst 102 d_M_enter_101 (0 : Int32) (by decide) ?_
    refine ab_iload 104 d_M_enter_102 rfl ?_
    refine ab_if_ne 111 107 d_M_enter_104 (fun z2 => ?_) (fun z2 => ?_)
    · replace hyp := ab_neg z2 hyp
      refine ab_iconst 112 d_M_enter_111 (0 : Int32) (by decide) ?_
      refine ab_pick [0, 1, 2, 3, 4] [(0, _), (1, _), (2, _), (3, _), (4, _)] rfl ?_
      exact q_M_enter_c112 v1 v2 v3 v4 (0 : Int32) (0 : Int32) s0 M hyp
    · replace hyp := ab_pos z2 hyp
      refine ab_iconst 108 d_M_enter_107 (1 : Int32) (by decide) ?_
      refine ab_goto 112 d_M_enter_108 ?_
      refine ab_pick [0, 1, 2, 3, 4] [(0, _), (1, _), (2, _), (3, _), (4, _)] rfl ?_
      exact q_M_enter_c112 v1 v2 v3 v4 (1 : Int32) (0 : Int32) s0 M hyp
  · replace hyp := ab_pos z1 hyp
    refine ab_iconst 98 d_M_enter_97 (1 : Int32) (by decide) ?_
    refine ab_goto 102 d_M_enter_98 ?_
    refine ab_iload 104 d_M_enter_102 rfl ?_
    refine ab_if_ne 111 107 d_M_enter_104 (fun z3 => ?_) (fun z3 => ?_)
    · replace hyp := ab_neg z3 hyp
      refine ab_iconst 112 d_M_enter_111 (0 : Int32) (by decide) ?_
      refine ab_pick [0, 1, 2, 3, 4] [(0, _), (1, _), (2, _), (3, _), (4, _)] rfl ?_
      exact q_M_enter_c112 v1 v2 v3 v4 (0 : Int32) (1 : Int32) s0 M hyp
    · replace hyp := ab_pos z3 hyp
      refine ab_iconst 108 d_M_enter_107 (1 : Int32) (by decide) ?_
      refine ab_goto 112 d_M_enter_108 ?_
      refine ab_pick [0, 1, 2, 3, 4] [(0, _), (1, _), (2, _), (3, _), (4, _)] rfl ?_
      exact q_M_enter_c112 v1 v2 v3 v4 (1 : Int32) (1 : Int32) s0 M hyp
theorem q_M_enter_c63 {l : Launch} {D : va_G} {B : Nat} {ad : Nat → Nat} {r : Int32 × Me} (v1 : Int32) (v2 : Int32) (v3 : Int32) (v4 : Int32) (v5 : Int32) (s0 : Int32) (M : Me) (hyp : M_enter_c63 v1 v2 v3 v4 v5 s0 M = some r) : ab_V (ab_km l D B ad y_M_enter rm_M_enter (.ok (some (.int r.1))) (lay r.2)) ad 63 [(0, .ref 3), (1, .int v1), (2, .int v2), (3, .int v3), (4, .int v4), (5, .int v5)] [.int s0] (lay M) 0 0 := by
  unfold M_enter_c63 at hyp
  refine ab_istore 65 [(6, _), (0, _), (1, _), (2, _), (3, _), (4, _), (5, _)] d_M_enter_63 rfl ?_
  refine ab_aload_n 66 d_M_enter_65 rfl ?_
  refine ab_iload_n 67 d_M_enter_66 rfl ?_
  refine ab_if_lt 87 70 d_M_enter_67 (fun z1 => ?_) (fun z1 => ?_)
  · replace hyp := ab_pos z1 hyp
    refine ab_iconst 88 d_M_enter_87 (1 : Int32) (by decide) ?_
    refine ab_goto 92 d_M_enter_88 ?_
    refine ab_pick [1, 2, 3, 4, 5, 6, 0] [(0, _), (1, _), (2, _), (3, _), (4, _), (5, _), (6, _)] rfl ?_
    exact q_M_enter_c92 v1 v2 v3 v4 v5 s0 (1 : Int32) M hyp
  · replace hyp := ab_neg z1 hyp
    refine ab_iload_n 71 d_M_enter_70 rfl ?_
    refine ab_iconst 72 d_M_enter_71 (1 : Int32) (by decide) ?_
    refine ab_ic_gt 87 75 d_M_enter_72 (fun z2 => ?_) (fun z2 => ?_)
    · replace hyp := ab_pos z2 hyp
      refine ab_iconst 88 d_M_enter_87 (1 : Int32) (by decide) ?_
      refine ab_goto 92 d_M_enter_88 ?_
      refine ab_pick [1, 2, 3, 4, 5, 6, 0] [(0, _), (1, _), (2, _), (3, _), (4, _), (5, _), (6, _)] rfl ?_
      exact q_M_enter_c92 v1 v2 v3 v4 v5 s0 (1 : Int32) M hyp
    · replace hyp := ab_neg z2 hyp
      refine ab_iload 77 d_M_enter_75 rfl ?_
      refine ab_if_lt 87 80 d_M_enter_77 (fun z3 => ?_) (fun z3 => ?_)
      · replace hyp := ab_pos z3 hyp
        refine ab_iconst 88 d_M_enter_87 (1 : Int32) (by decide) ?_
        refine ab_goto 92 d_M_enter_88 ?_
        refine ab_pick [1, 2, 3, 4, 5, 6, 0] [(0, _), (1, _), (2, _), (3, _), (4, _), (5, _), (6, _)] rfl ?_
        exact q_M_enter_c92 v1 v2 v3 v4 v5 s0 (1 : Int32) M hyp
      · replace hyp := ab_neg z3 hyp
        refine ab_iload 82 d_M_enter_80 rfl ?_
        refine ab_bipush 84 d_M_enter_82 (60 : Int32) (by decide) ?_
        refine ab_ic_le 91 87 d_M_enter_84 (fun z4 => ?_) (fun z4 => ?_)
        · replace hyp := ab_pos z4 hyp
          refine ab_iconst 92 d_M_enter_91 (0 : Int32) (by decide) ?_
          refine ab_pick [1, 2, 3, 4, 5, 6, 0] [(0, _), (1, _), (2, _), (3, _), (4, _), (5, _), (6, _)] rfl ?_
          exact q_M_enter_c92 v1 v2 v3 v4 v5 s0 (0 : Int32) M hyp
        · replace hyp := ab_neg z4 hyp
          refine ab_iconst 88 d_M_enter_87 (1 : Int32) (by decide) ?_
          refine ab_goto 92 d_M_enter_88 ?_
          refine ab_pick [1, 2, 3, 4, 5, 6, 0] [(0, _), (1, _), (2, _), (3, _), (4, _), (5, _), (6, _)] rfl ?_
          exact q_M_enter_c92 v1 v2 v3 v4 v5 s0 (1 : Int32) M hyp
theorem q_M_enter_c21 {l : Launch} {D : va_G} {B : Nat} {ad : Nat → Nat} {r : Int32 × Me} (v1 : Int32) (v2 : Int32) (v3 : Int32) (v4 : Int32) (s0 : Int32) (M : Me) (hyp : M_enter_c21 v1 v2 v3 v4 s0 M = some r) : ab_V (ab_km l D B ad y_M_enter rm_M_enter (.ok (some (.int r.1))) (lay r.2)) ad 21 [(0, .ref 3), (1, .int v1), (2, .int v2), (3, .int v3), (4, .int v4)] [.int s0] (lay M) 0 0 := by
  unfold M_enter_c21 at hyp
  refine ab_istore 23 [(5, _), (0, _), (1, _), (2, _), (3, _), (4, _)] d_M_enter_21 rfl ?_
  refine ab_iload 25 d_M_enter_23 rfl ?_
  refine ab_if_eq 62 28 d_M_enter_25 (fun z1 => ?_) (fun z1 => ?_)
  · replace hyp := ab_pos z1 hyp
    refine ab_iconst 63 d_M_enter_62 (0 : Int32) (by decide) ?_
    refine ab_pick [1, 2, 3, 4, 5, 0] [(0, _), (1, _), (2, _), (3, _), (4, _), (5, _)] rfl ?_
    exact q_M_enter_c63 v1 v2 v3 v4 s0 (0 : Int32) M hyp
  · replace hyp := ab_neg z1 hyp
    refine ab_aload_n 29 d_M_enter_28 rfl ?_
    refine ab_iload_n 30 d_M_enter_29 rfl ?_
    refine ab_iconst 31 d_M_enter_30 (0 : Int32) (by decide) ?_
    refine ab_iload 33 d_M_enter_31 rfl ?_
    refine ab_aload_n 34 d_M_enter_33 rfl ?_
    refine ab_get 37 d_M_enter_34 fd_25 rfl rfl ?_
    obtain ⟨r3, hc2, hyp⟩ := ab_bind hyp
    refine ab_callV (h' := lay M) 40 0 0 [] [.int r3] d_M_enter_37 ok_M_fits lk_54 (c_M_fits hc2) rfl rfl ?_
    refine ab_if_eq 62 43 d_M_enter_40 (fun z4 => ?_) (fun z4 => ?_)
    · replace hyp := ab_pos z4 hyp
      refine ab_iconst 63 d_M_enter_62 (0 : Int32) (by decide) ?_
      refine ab_pick [1, 2, 3, 4, 5, 0] [(0, _), (1, _), (2, _), (3, _), (4, _), (5, _)] rfl ?_
      exact q_M_enter_c63 v1 v2 v3 v4 s0 (0 : Int32) M hyp
    · replace hyp := ab_neg z4 hyp
      refine ab_aload_n 44 d_M_enter_43 rfl ?_
      refine ab_iload_n 45 d_M_enter_44 rfl ?_
      refine ab_iconst 46 d_M_enter_45 (1 : Int32) (by decide) ?_
      refine ab_iload 48 d_M_enter_46 rfl ?_
      refine ab_aload_n 49 d_M_enter_48 rfl ?_
      refine ab_get 52 d_M_enter_49 fd_25 rfl rfl ?_
      obtain ⟨r6, hc5, hyp⟩ := ab_bind hyp
      refine ab_callV (h' := lay M) 55 0 0 [] [.int r6] d_M_enter_52 ok_M_fits lk_54 (c_M_fits hc5) rfl rfl ?_
      refine ab_if_eq 62 58 d_M_enter_55 (fun z7 => ?_) (fun z7 => ?_)
      · replace hyp := ab_pos z7 hyp
        refine ab_iconst 63 d_M_enter_62 (0 : Int32) (by decide) ?_
        refine ab_pick [1, 2, 3, 4, 5, 0] [(0, _), (1, _), (2, _), (3, _), (4, _), (5, _)] rfl ?_
        exact q_M_enter_c63 v1 v2 v3 v4 s0 (0 : Int32) M hyp
      · replace hyp := ab_neg z7 hyp
        refine ab_iconst 59 d_M_enter_58 (1 : Int32) (by decide) ?_
        refine ab_goto 63 d_M_enter_59 ?_
        refine ab_pick [1, 2, 3, 4, 5, 0] [(0, _), (1, _), (2, _), (3, _), (4, _), (5, _)] rfl ?_
        exact q_M_enter_c63 v1 v2 v3 v4 s0 (1 : Int32) M hyp
theorem c_M_enter {M : Me} {v1 : Int32} {v2 : Int32} {v3 : Int32} {v4 : Int32} {r : Int32 × Me} (hyp : M_enter M v1 v2 v3 v4 = some r) : ab_Met y_M_enter rm_M_enter [.ref 3, .int v1, .int v2, .int v3, .int v4] (lay M) (.ok (some (.int r.1))) (lay r.2) := by
  refine ab_start rfl rfl (Nat.le_of_ble_eq_true rfl) (fun l D B ad => ?_)
  show ab_V _ ad 0 [(0, .ref 3), (1, .int v1), (2, .int v2), (3, .int v3), (4, .int v4)] [] _ 0 0
  unfold M_enter at hyp
  refine ab_aload_n 1 d_M_enter_0 rfl ?_
  refine ab_iload_n 2 d_M_enter_1 rfl ?_
  obtain ⟨r2, hc1, hyp⟩ := ab_bind hyp
  refine ab_callV (h' := lay M) 5 0 0 [] [.int r2] d_M_enter_2 ok_M_isParent lk_53 (c_M_isParent hc1) rfl rfl ?_
  refine ab_if_eq 20 8 d_M_enter_5 (fun z3 => ?_) (fun z3 => ?_)
  · replace hyp := ab_pos z3 hyp
    refine ab_iconst 21 d_M_enter_20 (0 : Int32) (by decide) ?_
    refine ab_pick [0, 1, 2, 3, 4] [(0, _), (1, _), (2, _), (3, _), (4, _)] rfl ?_
    exact q_M_enter_c21 v1 v2 v3 v4 (0 : Int32) M hyp
  · replace hyp := ab_neg z3 hyp
    refine ab_aload_n 9 d_M_enter_8 rfl ?_
    refine ab_iload_n 10 d_M_enter_9 rfl ?_
    obtain ⟨r5, hc4, hyp⟩ := ab_bind hyp
    refine ab_callV (h' := lay M) 13 0 0 [] [.int r5] d_M_enter_10 ok_M_isParent lk_53 (c_M_isParent hc4) rfl rfl ?_
    refine ab_if_eq 20 16 d_M_enter_13 (fun z6 => ?_) (fun z6 => ?_)
    · replace hyp := ab_pos z6 hyp
      refine ab_iconst 21 d_M_enter_20 (0 : Int32) (by decide) ?_
      refine ab_pick [0, 1, 2, 3, 4] [(0, _), (1, _), (2, _), (3, _), (4, _)] rfl ?_
      exact q_M_enter_c21 v1 v2 v3 v4 (0 : Int32) M hyp
    · replace hyp := ab_neg z6 hyp
      refine ab_iconst 17 d_M_enter_16 (1 : Int32) (by decide) ?_
      refine ab_goto 21 d_M_enter_17 ?_
      refine ab_pick [0, 1, 2, 3, 4] [(0, _), (1, _), (2, _), (3, _), (4, _)] rfl ?_
      exact q_M_enter_c21 v1 v2 v3 v4 (1 : Int32) M hyp
/-! M_correct -/
def M_correct_b162 (rec162 : Int32 → Int32 → Me → Option (Int32 × Me)) (v6 : Int32) (v7 : Int32) (M : Me) : Option (Int32 × Me) :=
  if (gF M 5) ≤ v7 then (some (v6, M)) else (gd (inb v7 24) (gd (inb v7 24) (if (gL M 5 v7) = (gL M 6 v7) then (rec162 v6 (v7 + (1 : Int32)) M) else (rec162 (v6 + (1 : Int32)) (v7 + (1 : Int32)) M))))
def M_correct_L162 : Nat → Int32 → Int32 → Me → Option (Int32 × Me)
  | 0, _, _, _ => none
  | F + 1, v6, v7, M => M_correct_b162 (M_correct_L162 F) v6 v7 M
def M_correct_b109 (rec109 : Int32 → Int32 → Int32 → Int32 → Me → Option (Int32 × Me)) (v1 : Int32) (v2 : Int32) (v3 : Int32) (v6 : Int32) (M : Me) : Option (Int32 × Me) :=
  if (gF M 5) ≤ v6 then (gd (inb v1 24) (gd (inb v1 24) (Option.bind (M_fill (sI (sI M 12 v1 v2) 13 v1 v3)) (fun r5 => M_correct_L162 64 (0 : Int32) (0 : Int32) r5)))) else (gd (inb v6 24) (gd (inb v6 24) (rec109 v1 v2 v3 (v6 + (1 : Int32)) (sL M 6 v6 (gL M 5 v6)))))
def M_correct_L109 : Nat → Int32 → Int32 → Int32 → Int32 → Me → Option (Int32 × Me)
  | 0, _, _, _, _, _ => none
  | F + 1, v1, v2, v3, v6, M => M_correct_b109 (M_correct_L109 F) v1 v2 v3 v6 M
def M_correct_c96 (v1 : Int32) (v2 : Int32) (v3 : Int32) (s0 : Int32) (s1 : Int32) (M : Me) : Option (Int32 × Me) :=
  Option.bind (M_refused M s1 s0 (0 : Int32) (0 : Int32)) (fun r2 => if r2.1 = (0 : Int32) then (M_correct_L109 64 v1 v2 v3 (0 : Int32) r2.2) else (some ((0 : Int32), r2.2)))
def M_correct_c73 (v1 : Int32) (v2 : Int32) (v3 : Int32) (v4 : Int32) (s0 : Int32) (M : Me) : Option (Int32 × Me) :=
  if v4 = (0 : Int32) then (if s0 = (0 : Int32) then (M_correct_c96 v1 v2 v3 (1 : Int32) (1 : Int32) M) else (M_correct_c96 v1 v2 v3 (0 : Int32) (1 : Int32) M)) else (if s0 = (0 : Int32) then (M_correct_c96 v1 v2 v3 (1 : Int32) (0 : Int32) M) else (M_correct_c96 v1 v2 v3 (0 : Int32) (0 : Int32) M))
def M_correct_c29 (v1 : Int32) (v2 : Int32) (v3 : Int32) (s0 : Int32) (M : Me) : Option (Int32 × Me) :=
  if s0 = (0 : Int32) then (M_correct_c73 v1 v2 v3 s0 (0 : Int32) M) else (gd (inb v1 24) (Option.bind (M_fits M v2 (0 : Int32) (gI M 15 v1) v1) (fun r4 => if r4 = (0 : Int32) then (M_correct_c73 v1 v2 v3 s0 (0 : Int32) M) else (gd (inb v1 24) (Option.bind (M_fits M v3 (1 : Int32) (gI M 15 v1) v1) (fun r8 => if r8 = (0 : Int32) then (M_correct_c73 v1 v2 v3 s0 (0 : Int32) M) else (M_correct_c73 v1 v2 v3 s0 (1 : Int32) M)))))))
def M_correct (M : Me) (v1 : Int32) (v2 : Int32) (v3 : Int32) : Option (Int32 × Me) :=
  Option.bind (M_is M v1) (fun r2 => if r2 = (0 : Int32) then (M_correct_c29 v1 v2 v3 (0 : Int32) M) else (Option.bind (M_isParent M v2) (fun r5 => if r5 = (0 : Int32) then (M_correct_c29 v1 v2 v3 (0 : Int32) M) else (Option.bind (M_isParent M v3) (fun r8 => if r8 = (0 : Int32) then (M_correct_c29 v1 v2 v3 (0 : Int32) M) else (M_correct_c29 v1 v2 v3 (1 : Int32) M))))))
def rm_M_correct : Room := { frames := 2, locals := 46, cells := 0, slots := 0 }
theorem q_M_correct_b162 {l : Launch} {D : va_G} {B : Nat} {ad : Nat → Nat} {r : Int32 × Me} (rec162 : Int32 → Int32 → Me → Option (Int32 × Me)) (hrec162 : ∀ (v6 : Int32) (v7 : Int32) (M : Me) , rec162 v6 v7 M = some r → ab_V (ab_km l D B ad y_M_correct rm_M_correct (.ok (some (.int r.1))) (lay r.2)) ad 162 [(0, .ref 3), (6, .int v6), (7, .int v7)] [] (lay M) 0 0) (v6 : Int32) (v7 : Int32) (M : Me) (hyp : M_correct_b162 rec162 v6 v7 M = some r) : ab_V (ab_km l D B ad y_M_correct rm_M_correct (.ok (some (.int r.1))) (lay r.2)) ad 162 [(0, .ref 3), (6, .int v6), (7, .int v7)] [] (lay M) 0 0 := by
  unfold M_correct_b162 at hyp
  refine ab_iload 164 d_M_correct_162 rfl ?_
  refine ab_aload_n 165 d_M_correct_164 rfl ?_
  refine ab_get 168 d_M_correct_165 fd_25 rfl rfl ?_
  refine ab_ic_ge 206 171 d_M_correct_168 (fun z1 => ?_) (fun z1 => ?_)
  · replace hyp := ab_pos z1 hyp
    refine ab_iload 208 d_M_correct_206 rfl ?_
    cases hyp
    exact ab_ireturn d_M_correct_208 rfl rfl rfl (Nat.le_of_ble_eq_true rfl) (Nat.le_of_ble_eq_true rfl)
  · replace hyp := ab_neg z1 hyp
    refine ab_aload_n 172 d_M_correct_171 rfl ?_
    refine ab_get 175 d_M_correct_172 fd_29 rfl rfl ?_
    refine ab_iload 177 d_M_correct_175 rfl ?_
    obtain ⟨g2, hyp⟩ := ab_gd hyp
    refine ab_lld 5 24 178 d_M_correct_177 rfl g2 ?_
    refine ab_aload_n 179 d_M_correct_178 rfl ?_
    refine ab_get 182 d_M_correct_179 fd_32 rfl rfl ?_
    refine ab_iload 184 d_M_correct_182 rfl ?_
    obtain ⟨g3, hyp⟩ := ab_gd hyp
    refine ab_lld 6 24 185 d_M_correct_184 rfl g3 ?_
    refine ab_lc_eq 196 186 189 d_M_correct_185 d_M_correct_186 (fun z4 => ?_) (fun z4 => ?_)
    · replace hyp := ab_pos z4 hyp
      refine ab_iload 198 d_M_correct_196 rfl ?_
      refine ab_istore 200 [(6, _), (0, _), (7, _)] d_M_correct_198 rfl ?_
      refine ab_iinc 203 [(7, _), (6, _), (0, _)] d_M_correct_200 (1 : Int32) (by decide) rfl rfl ?_
      refine ab_goto 162 d_M_correct_203 ?_
      refine ab_pick [2, 1, 0] [(0, _), (6, _), (7, _)] rfl ?_
      exact hrec162 v6 (v7 + (1 : Int32)) M hyp
    · replace hyp := ab_neg z4 hyp
      refine ab_iload 191 d_M_correct_189 rfl ?_
      refine ab_iconst 192 d_M_correct_191 (1 : Int32) (by decide) ?_
      refine ab_iadd 193 d_M_correct_192 ?_
      refine ab_goto 198 d_M_correct_193 ?_
      refine ab_istore 200 [(6, _), (0, _), (7, _)] d_M_correct_198 rfl ?_
      refine ab_iinc 203 [(7, _), (6, _), (0, _)] d_M_correct_200 (1 : Int32) (by decide) rfl rfl ?_
      refine ab_goto 162 d_M_correct_203 ?_
      refine ab_pick [2, 1, 0] [(0, _), (6, _), (7, _)] rfl ?_
      exact hrec162 (v6 + (1 : Int32)) (v7 + (1 : Int32)) M hyp
theorem q_M_correct_L162 {l : Launch} {D : va_G} {B : Nat} {ad : Nat → Nat} {r : Int32 × Me} : ∀ (F : Nat) (v6 : Int32) (v7 : Int32) (M : Me) , M_correct_L162 F v6 v7 M = some r → ab_V (ab_km l D B ad y_M_correct rm_M_correct (.ok (some (.int r.1))) (lay r.2)) ad 162 [(0, .ref 3), (6, .int v6), (7, .int v7)] [] (lay M) 0 0 := by
  intro F
  induction F with
  | zero =>
    intro v6 v7 M hyp
    have h2 : (none : Option (Int32 × Me)) = some r := hyp
    cases h2
  | succ F ih =>
    intro v6 v7 M hyp
    exact q_M_correct_b162 (M_correct_L162 F) ih v6 v7 M hyp
theorem q_M_correct_b109 {l : Launch} {D : va_G} {B : Nat} {ad : Nat → Nat} {r : Int32 × Me} (rec109 : Int32 → Int32 → Int32 → Int32 → Me → Option (Int32 × Me)) (hrec109 : ∀ (v1 : Int32) (v2 : Int32) (v3 : Int32) (v6 : Int32) (M : Me) , rec109 v1 v2 v3 v6 M = some r → ab_V (ab_km l D B ad y_M_correct rm_M_correct (.ok (some (.int r.1))) (lay r.2)) ad 109 [(0, .ref 3), (1, .int v1), (2, .int v2), (3, .int v3), (6, .int v6)] [] (lay M) 0 0) (v1 : Int32) (v2 : Int32) (v3 : Int32) (v6 : Int32) (M : Me) (hyp : M_correct_b109 rec109 v1 v2 v3 v6 M = some r) : ab_V (ab_km l D B ad y_M_correct rm_M_correct (.ok (some (.int r.1))) (lay r.2)) ad 109 [(0, .ref 3), (1, .int v1), (2, .int v2), (3, .int v3), (6, .int v6)] [] (lay M) 0 0 := by
  unfold M_correct_b109 at hyp
  refine ab_iload 111 d_M_correct_109 rfl ?_
  refine ab_aload_n 112 d_M_correct_111 rfl ?_
  refine ab_get 115 d_M_correct_112 fd_25 rfl rfl ?_
  refine ab_ic_ge 138 118 d_M_correct_115 (fun z1 => ?_) (fun z1 => ?_)
  · replace hyp := ab_pos z1 hyp
    refine ab_aload_n 139 d_M_correct_138 rfl ?_
    refine ab_get 142 d_M_correct_139 fd_30 rfl rfl ?_
    refine ab_iload_n 143 d_M_correct_142 rfl ?_
    refine ab_iload_n 144 d_M_correct_143 rfl ?_
    obtain ⟨g2, hyp⟩ := ab_gd hyp
    refine ab_ist 12 24 145 d_M_correct_144 rfl g2 lay_I12 ?_
    refine ab_aload_n 146 d_M_correct_145 rfl ?_
    refine ab_get 149 d_M_correct_146 fd_31 rfl rfl ?_
    refine ab_iload_n 150 d_M_correct_149 rfl ?_
    refine ab_iload_n 151 d_M_correct_150 rfl ?_
    obtain ⟨g3, hyp⟩ := ab_gd hyp
    refine ab_ist 13 24 152 d_M_correct_151 rfl g3 lay_I13 ?_
    refine ab_aload_n 153 d_M_correct_152 rfl ?_
    obtain ⟨r5, hc4, hyp⟩ := ab_bind hyp
    refine ab_callV (h' := lay r5) 156 0 0 [] [] d_M_correct_153 ok_M_fill lk_56 (c_M_fill hc4) rfl rfl ?_
    refine ab_iconst 157 d_M_correct_156 (0 : Int32) (by decide) ?_
    refine ab_istore 159 [(6, _), (0, _), (1, _), (2, _), (3, _)] d_M_correct_157 rfl ?_
    refine ab_iconst 160 d_M_correct_159 (0 : Int32) (by decide) ?_
    refine ab_istore 162 [(7, _), (6, _), (0, _), (1, _), (2, _), (3, _)] d_M_correct_160 rfl ?_
    refine ab_pick [2, 1, 0] [(0, _), (6, _), (7, _)] rfl ?_
    exact q_M_correct_L162 64 (0 : Int32) (0 : Int32) r5 hyp
  · replace hyp := ab_neg z1 hyp
    refine ab_aload_n 119 d_M_correct_118 rfl ?_
    refine ab_get 122 d_M_correct_119 fd_32 rfl rfl ?_
    refine ab_iload 124 d_M_correct_122 rfl ?_
    refine ab_aload_n 125 d_M_correct_124 rfl ?_
    refine ab_get 128 d_M_correct_125 fd_29 rfl rfl ?_
    refine ab_iload 130 d_M_correct_128 rfl ?_
    obtain ⟨g6, hyp⟩ := ab_gd hyp
    refine ab_lld 5 24 131 d_M_correct_130 rfl g6 ?_
    obtain ⟨g7, hyp⟩ := ab_gd hyp
    refine ab_lst 6 24 132 d_M_correct_131 rfl g7 lay_L6 ?_
    refine ab_iinc 135 [(6, _), (0, _), (1, _), (2, _), (3, _)] d_M_correct_132 (1 : Int32) (by decide) rfl rfl ?_
    refine ab_goto 109 d_M_correct_135 ?_
    refine ab_pick [1, 2, 3, 4, 0] [(0, _), (1, _), (2, _), (3, _), (6, _)] rfl ?_
    exact hrec109 v1 v2 v3 (v6 + (1 : Int32)) (sL M 6 v6 (gL M 5 v6)) hyp
theorem q_M_correct_L109 {l : Launch} {D : va_G} {B : Nat} {ad : Nat → Nat} {r : Int32 × Me} : ∀ (F : Nat) (v1 : Int32) (v2 : Int32) (v3 : Int32) (v6 : Int32) (M : Me) , M_correct_L109 F v1 v2 v3 v6 M = some r → ab_V (ab_km l D B ad y_M_correct rm_M_correct (.ok (some (.int r.1))) (lay r.2)) ad 109 [(0, .ref 3), (1, .int v1), (2, .int v2), (3, .int v3), (6, .int v6)] [] (lay M) 0 0 := by
  intro F
  induction F with
  | zero =>
    intro v1 v2 v3 v6 M hyp
    have h2 : (none : Option (Int32 × Me)) = some r := hyp
    cases h2
  | succ F ih =>
    intro v1 v2 v3 v6 M hyp
    exact q_M_correct_b109 (M_correct_L109 F) ih v1 v2 v3 v6 M hyp
theorem q_M_correct_c96 {l : Launch} {D : va_G} {B : Nat} {ad : Nat → Nat} {r : Int32 × Me} (v1 : Int32) (v2 : Int32) (v3 : Int32) (s0 : Int32) (s1 : Int32) (M : Me) (hyp : M_correct_c96 v1 v2 v3 s0 s1 M = some r) : ab_V (ab_km l D B ad y_M_correct rm_M_correct (.ok (some (.int r.1))) (lay r.2)) ad 96 [(0, .ref 3), (1, .int v1), (2, .int v2), (3, .int v3)] [.int s0, .int s1, .ref 3] (lay M) 0 0 := by
  unfold M_correct_c96 at hyp
  refine ab_iconst 97 d_M_correct_96 (0 : Int32) (by decide) ?_
  refine ab_iconst 98 d_M_correct_97 (0 : Int32) (by decide) ?_
  obtain ⟨r2, hc1, hyp⟩ := ab_bind hyp
  refine ab_callV (h' := lay r2.2) 101 0 0 [] [.int r2.1] d_M_correct_98 ok_M_refused lk_55 (c_M_refused hc1) rfl rfl ?_
  refine ab_if_eq 106 104 d_M_correct_101 (fun z3 => ?_) (fun z3 => ?_)
  · replace hyp := ab_pos z3 hyp
    refine ab_iconst 107 d_M_correct_106 (0 : Int32) (by decide) ?_
    refine ab_istore 109 [(6, _), (0, _), (1, _), (2, _), (3, _)] d_M_correct_107 rfl ?_
    refine ab_pick [1, 2, 3, 4, 0] [(0, _), (1, _), (2, _), (3, _), (6, _)] rfl ?_
    exact q_M_correct_L109 64 v1 v2 v3 (0 : Int32) r2.2 hyp
  · replace hyp := ab_neg z3 hyp
    refine ab_iconst 105 d_M_correct_104 (0 : Int32) (by decide) ?_
    cases hyp
    exact ab_ireturn d_M_correct_105 rfl rfl rfl (Nat.le_of_ble_eq_true rfl) (Nat.le_of_ble_eq_true rfl)
theorem q_M_correct_c73 {l : Launch} {D : va_G} {B : Nat} {ad : Nat → Nat} {r : Int32 × Me} (v1 : Int32) (v2 : Int32) (v3 : Int32) (v4 : Int32) (s0 : Int32) (M : Me) (hyp : M_correct_c73 v1 v2 v3 v4 s0 M = some r) : ab_V (ab_km l D B ad y_M_correct rm_M_correct (.ok (some (.int r.1))) (lay r.2)) ad 73 [(0, .ref 3), (1, .int v1), (2, .int v2), (3, .int v3), (4, .int v4)] [.int s0] (lay M) 0 0 := by
  unfold M_correct_c73 at hyp
  refine ab_istore 75 [(5, _), (0, _), (1, _), (2, _), (3, _), (4, _)] d_M_correct_73 rfl ?_
  refine ab_aload_n 76 d_M_correct_75 rfl ?_
  refine ab_iload 78 d_M_correct_76 rfl ?_
  refine ab_if_ne 85 81 d_M_correct_78 (fun z1 => ?_) (fun z1 => ?_)
  · replace hyp := ab_neg z1 hyp
    refine ab_iconst 86 d_M_correct_85 (0 : Int32) (by decide) ?_
    refine ab_iload 88 d_M_correct_86 rfl ?_
    refine ab_if_ne 95 91 d_M_correct_88 (fun z2 => ?_) (fun z2 => ?_)
    · replace hyp := ab_neg z2 hyp
      refine ab_iconst 96 d_M_correct_95 (0 : Int32) (by decide) ?_
      refine ab_pick [1, 2, 3, 4] [(0, _), (1, _), (2, _), (3, _)] rfl ?_
      exact q_M_correct_c96 v1 v2 v3 (0 : Int32) (0 : Int32) M hyp
    · replace hyp := ab_pos z2 hyp
      refine ab_iconst 92 d_M_correct_91 (1 : Int32) (by decide) ?_
      refine ab_goto 96 d_M_correct_92 ?_
      refine ab_pick [1, 2, 3, 4] [(0, _), (1, _), (2, _), (3, _)] rfl ?_
      exact q_M_correct_c96 v1 v2 v3 (1 : Int32) (0 : Int32) M hyp
  · replace hyp := ab_pos z1 hyp
    refine ab_iconst 82 d_M_correct_81 (1 : Int32) (by decide) ?_
    refine ab_goto 86 d_M_correct_82 ?_
    refine ab_iload 88 d_M_correct_86 rfl ?_
    refine ab_if_ne 95 91 d_M_correct_88 (fun z3 => ?_) (fun z3 => ?_)
    · replace hyp := ab_neg z3 hyp
      refine ab_iconst 96 d_M_correct_95 (0 : Int32) (by decide) ?_
      refine ab_pick [1, 2, 3, 4] [(0, _), (1, _), (2, _), (3, _)] rfl ?_
      exact q_M_correct_c96 v1 v2 v3 (0 : Int32) (1 : Int32) M hyp
    · replace hyp := ab_pos z3 hyp
      refine ab_iconst 92 d_M_correct_91 (1 : Int32) (by decide) ?_
      refine ab_goto 96 d_M_correct_92 ?_
      refine ab_pick [1, 2, 3, 4] [(0, _), (1, _), (2, _), (3, _)] rfl ?_
      exact q_M_correct_c96 v1 v2 v3 (1 : Int32) (1 : Int32) M hyp
theorem q_M_correct_c29 {l : Launch} {D : va_G} {B : Nat} {ad : Nat → Nat} {r : Int32 × Me} (v1 : Int32) (v2 : Int32) (v3 : Int32) (s0 : Int32) (M : Me) (hyp : M_correct_c29 v1 v2 v3 s0 M = some r) : ab_V (ab_km l D B ad y_M_correct rm_M_correct (.ok (some (.int r.1))) (lay r.2)) ad 29 [(0, .ref 3), (1, .int v1), (2, .int v2), (3, .int v3)] [.int s0] (lay M) 0 0 := by
  unfold M_correct_c29 at hyp
  refine ab_istore 31 [(4, _), (0, _), (1, _), (2, _), (3, _)] d_M_correct_29 rfl ?_
  refine ab_iload 33 d_M_correct_31 rfl ?_
  refine ab_if_eq 72 36 d_M_correct_33 (fun z1 => ?_) (fun z1 => ?_)
  · replace hyp := ab_pos z1 hyp
    refine ab_iconst 73 d_M_correct_72 (0 : Int32) (by decide) ?_
    refine ab_pick [1, 2, 3, 4, 0] [(0, _), (1, _), (2, _), (3, _), (4, _)] rfl ?_
    exact q_M_correct_c73 v1 v2 v3 s0 (0 : Int32) M hyp
  · replace hyp := ab_neg z1 hyp
    refine ab_aload_n 37 d_M_correct_36 rfl ?_
    refine ab_iload_n 38 d_M_correct_37 rfl ?_
    refine ab_iconst 39 d_M_correct_38 (0 : Int32) (by decide) ?_
    refine ab_aload_n 40 d_M_correct_39 rfl ?_
    refine ab_get 43 d_M_correct_40 fd_27 rfl rfl ?_
    refine ab_iload_n 44 d_M_correct_43 rfl ?_
    obtain ⟨g2, hyp⟩ := ab_gd hyp
    refine ab_ild 15 24 45 d_M_correct_44 rfl g2 ?_
    refine ab_iload_n 46 d_M_correct_45 rfl ?_
    obtain ⟨r4, hc3, hyp⟩ := ab_bind hyp
    refine ab_callV (h' := lay M) 49 0 0 [] [.int r4] d_M_correct_46 ok_M_fits lk_54 (c_M_fits hc3) rfl rfl ?_
    refine ab_if_eq 72 52 d_M_correct_49 (fun z5 => ?_) (fun z5 => ?_)
    · replace hyp := ab_pos z5 hyp
      refine ab_iconst 73 d_M_correct_72 (0 : Int32) (by decide) ?_
      refine ab_pick [1, 2, 3, 4, 0] [(0, _), (1, _), (2, _), (3, _), (4, _)] rfl ?_
      exact q_M_correct_c73 v1 v2 v3 s0 (0 : Int32) M hyp
    · replace hyp := ab_neg z5 hyp
      refine ab_aload_n 53 d_M_correct_52 rfl ?_
      refine ab_iload_n 54 d_M_correct_53 rfl ?_
      refine ab_iconst 55 d_M_correct_54 (1 : Int32) (by decide) ?_
      refine ab_aload_n 56 d_M_correct_55 rfl ?_
      refine ab_get 59 d_M_correct_56 fd_27 rfl rfl ?_
      refine ab_iload_n 60 d_M_correct_59 rfl ?_
      obtain ⟨g6, hyp⟩ := ab_gd hyp
      refine ab_ild 15 24 61 d_M_correct_60 rfl g6 ?_
      refine ab_iload_n 62 d_M_correct_61 rfl ?_
      obtain ⟨r8, hc7, hyp⟩ := ab_bind hyp
      refine ab_callV (h' := lay M) 65 0 0 [] [.int r8] d_M_correct_62 ok_M_fits lk_54 (c_M_fits hc7) rfl rfl ?_
      refine ab_if_eq 72 68 d_M_correct_65 (fun z9 => ?_) (fun z9 => ?_)
      · replace hyp := ab_pos z9 hyp
        refine ab_iconst 73 d_M_correct_72 (0 : Int32) (by decide) ?_
        refine ab_pick [1, 2, 3, 4, 0] [(0, _), (1, _), (2, _), (3, _), (4, _)] rfl ?_
        exact q_M_correct_c73 v1 v2 v3 s0 (0 : Int32) M hyp
      · replace hyp := ab_neg z9 hyp
        refine ab_iconst 69 d_M_correct_68 (1 : Int32) (by decide) ?_
        refine ab_goto 73 d_M_correct_69 ?_
        refine ab_pick [1, 2, 3, 4, 0] [(0, _), (1, _), (2, _), (3, _), (4, _)] rfl ?_
        exact q_M_correct_c73 v1 v2 v3 s0 (1 : Int32) M hyp
theorem c_M_correct {M : Me} {v1 : Int32} {v2 : Int32} {v3 : Int32} {r : Int32 × Me} (hyp : M_correct M v1 v2 v3 = some r) : ab_Met y_M_correct rm_M_correct [.ref 3, .int v1, .int v2, .int v3] (lay M) (.ok (some (.int r.1))) (lay r.2) := by
  refine ab_start rfl rfl (Nat.le_of_ble_eq_true rfl) (fun l D B ad => ?_)
  show ab_V _ ad 0 [(0, .ref 3), (1, .int v1), (2, .int v2), (3, .int v3)] [] _ 0 0
  unfold M_correct at hyp
  refine ab_aload_n 1 d_M_correct_0 rfl ?_
  refine ab_iload_n 2 d_M_correct_1 rfl ?_
  obtain ⟨r2, hc1, hyp⟩ := ab_bind hyp
  refine ab_callV (h' := lay M) 5 0 0 [] [.int r2] d_M_correct_2 ok_M_is lk_51 (c_M_is hc1) rfl rfl ?_
  refine ab_if_eq 28 8 d_M_correct_5 (fun z3 => ?_) (fun z3 => ?_)
  · replace hyp := ab_pos z3 hyp
    refine ab_iconst 29 d_M_correct_28 (0 : Int32) (by decide) ?_
    refine ab_pick [0, 1, 2, 3] [(0, _), (1, _), (2, _), (3, _)] rfl ?_
    exact q_M_correct_c29 v1 v2 v3 (0 : Int32) M hyp
  · replace hyp := ab_neg z3 hyp
    refine ab_aload_n 9 d_M_correct_8 rfl ?_
    refine ab_iload_n 10 d_M_correct_9 rfl ?_
    obtain ⟨r5, hc4, hyp⟩ := ab_bind hyp
    refine ab_callV (h' := lay M) 13 0 0 [] [.int r5] d_M_correct_10 ok_M_isParent lk_53 (c_M_isParent hc4) rfl rfl ?_
    refine ab_if_eq 28 16 d_M_correct_13 (fun z6 => ?_) (fun z6 => ?_)
    · replace hyp := ab_pos z6 hyp
      refine ab_iconst 29 d_M_correct_28 (0 : Int32) (by decide) ?_
      refine ab_pick [0, 1, 2, 3] [(0, _), (1, _), (2, _), (3, _)] rfl ?_
      exact q_M_correct_c29 v1 v2 v3 (0 : Int32) M hyp
    · replace hyp := ab_neg z6 hyp
      refine ab_aload_n 17 d_M_correct_16 rfl ?_
      refine ab_iload_n 18 d_M_correct_17 rfl ?_
      obtain ⟨r8, hc7, hyp⟩ := ab_bind hyp
      refine ab_callV (h' := lay M) 21 0 0 [] [.int r8] d_M_correct_18 ok_M_isParent lk_53 (c_M_isParent hc7) rfl rfl ?_
      refine ab_if_eq 28 24 d_M_correct_21 (fun z9 => ?_) (fun z9 => ?_)
      · replace hyp := ab_pos z9 hyp
        refine ab_iconst 29 d_M_correct_28 (0 : Int32) (by decide) ?_
        refine ab_pick [0, 1, 2, 3] [(0, _), (1, _), (2, _), (3, _)] rfl ?_
        exact q_M_correct_c29 v1 v2 v3 (0 : Int32) M hyp
      · replace hyp := ab_neg z9 hyp
        refine ab_iconst 25 d_M_correct_24 (1 : Int32) (by decide) ?_
        refine ab_goto 29 d_M_correct_25 ?_
        refine ab_pick [0, 1, 2, 3] [(0, _), (1, _), (2, _), (3, _)] rfl ?_
        exact q_M_correct_c29 v1 v2 v3 (1 : Int32) M hyp
