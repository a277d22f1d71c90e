/-! M_plan -/
def M_plan_b224 (rec224 : Int64 → Int32 → Me → Option (Int64 × Me)) (v7 : Int64) (v9 : Int32) (M : Me) : Option (Int64 × Me) :=
  if (gF M 7) ≤ v9 then (some (v7, M)) else (if (gF M 6) = (0 : Int32) then (some (v7, M)) else (gd (inb v9 5) (gd (inb v9 5) (gd (inb (gI M 20 v9) 24) (rec224 v7 (v9 + (1 : Int32)) (sI M 19 (gI M 20 v9) (gI M 22 v9)))))))
def M_plan_L224 : Nat → Int64 → Int32 → Me → Option (Int64 × Me)
  | 0, _, _, _ => none
  | F + 1, v7, v9, M => M_plan_b224 (M_plan_L224 F) v7 v9 M
def M_plan_b143 (rec143 : Int32 → Int32 → Int64 → Int32 → Me → Option (Int64 × Me)) (v1 : Int32) (v2 : Int32) (v3 : Int64) (v7 : Int32) (M : Me) : Option (Int64 × Me) :=
  if (gF M 5) ≤ v7 then (Option.bind (M_findBest M v2 v3) (fun r3 => if r3.1 < (0 : Int64) then (M_plan_L224 64 r3.1 (0 : Int32) (sF r3.2 6 (0 : Int32))) else (M_plan_L224 64 r3.1 (0 : Int32) (sF r3.2 6 (1 : Int32))))) else (gd (inb v7 24) (if ((v1 >>> (v7 &&& 31)) &&& (1 : Int32)) = (1 : Int32) then (gd (inb (gF (sI M 19 v7 (-1 : Int32)) 7) 5) (rec143 v1 v2 v3 (v7 + (1 : Int32)) (sF (sI (sI M 19 v7 (-1 : Int32)) 20 (gF (sI M 19 v7 (-1 : Int32)) 7) v7) 7 ((gF (sI (sI M 19 v7 (-1 : Int32)) 20 (gF (sI M 19 v7 (-1 : Int32)) 7) v7) 7) + (1 : Int32))))) else (rec143 v1 v2 v3 (v7 + (1 : Int32)) (sI M 19 v7 (-1 : Int32)))))
def M_plan_L143 : Nat → Int32 → Int32 → Int64 → Int32 → Me → Option (Int64 × Me)
  | 0, _, _, _, _, _ => none
  | F + 1, v1, v2, v3, v7, M => M_plan_b143 (M_plan_L143 F) v1 v2 v3 v7 M
def M_plan_c126 (v1 : Int32) (v2 : Int32) (v3 : Int64) (s0 : Int32) (s1 : Int32) (s2 : Int32) (M : Me) : Option (Int64 × Me) :=
  Option.bind (M_refused M s2 s1 s0 (0 : Int32)) (fun r2 => if r2.1 = (0 : Int32) then (M_plan_L143 64 v1 v2 v3 (0 : Int32) (sF r2.2 7 (0 : Int32))) else (some ((0 : Int64), r2.2)))
def M_plan_c109 (v1 : Int32) (v2 : Int32) (v3 : Int64) (v5 : Int32) (v6 : Int32) (M : Me) : Option (Int64 × Me) :=
  if v6 = (0 : Int32) then (M_plan_c126 v1 v2 v3 (1 : Int32) v5 (1 : Int32) M) else (M_plan_c126 v1 v2 v3 (0 : Int32) v5 (1 : Int32) M)
def M_plan_b26 (rec26 : Int32 → Int32 → Int64 → Int32 → Int32 → Int32 → Me → Option (Int64 × Me)) (v1 : Int32) (v2 : Int32) (v3 : Int64) (v5 : Int32) (v6 : Int32) (v7 : Int32) (M : Me) : Option (Int64 × Me) :=
  if (gF M 5) ≤ v7 then (if v2 < (1 : Int32) then (M_plan_c109 v1 v2 v3 v5 v6 M) else (if (8 : Int32) < v2 then (M_plan_c109 v1 v2 v3 v5 v6 M) else (Option.bind (M_bitsOf M v1) (fun r5 => if (5 : Int32) < r5 then (M_plan_c109 v1 v2 v3 v5 v6 M) else (if (0 : Int64) ≤ v3 then (if v6 = (0 : Int32) then (M_plan_c126 v1 v2 v3 (1 : Int32) v5 (0 : Int32) M) else (M_plan_c126 v1 v2 v3 (0 : Int32) v5 (0 : Int32) M)) else (M_plan_c109 v1 v2 v3 v5 v6 M)))))) else (if v6 = (0 : Int32) then (rec26 v1 v2 v3 v5 (0 : Int32) (v7 + (1 : Int32)) M) else (if ((v1 >>> (v7 &&& 31)) &&& (1 : Int32)) = (0 : Int32) then (rec26 v1 v2 v3 v5 (1 : Int32) (v7 + (1 : Int32)) M) else (gd (inb v7 24) (if (gI M 14 v7) = (1 : Int32) then (gd (inb v7 24) (if (gI M 16 v7) = (0 : Int32) then (rec26 v1 v2 v3 v5 (1 : Int32) (v7 + (1 : Int32)) M) else (rec26 v1 v2 v3 v5 (0 : Int32) (v7 + (1 : Int32)) M))) else (rec26 v1 v2 v3 v5 (0 : Int32) (v7 + (1 : Int32)) M)))))
def M_plan_L26 : Nat → Int32 → Int32 → Int64 → Int32 → Int32 → Int32 → Me → Option (Int64 × Me)
  | 0, _, _, _, _, _, _, _ => none
  | F + 1, v1, v2, v3, v5, v6, v7, M => M_plan_b26 (M_plan_L26 F) v1 v2 v3 v5 v6 v7 M
def M_plan (M : Me) (v1 : Int32) (v2 : Int32) (v3 : Int64) : Option (Int64 × Me) :=
  if (v1 >>> ((gF M 5) &&& 31)) = (0 : Int32) then (if (0 : Int32) ≤ v1 then (M_plan_L26 64 v1 v2 v3 (0 : Int32) (1 : Int32) (0 : Int32) M) else (M_plan_L26 64 v1 v2 v3 (1 : Int32) (1 : Int32) (0 : Int32) M)) else (M_plan_L26 64 v1 v2 v3 (1 : Int32) (1 : Int32) (0 : Int32) M)
def rm_M_plan : Room := { frames := 3, locals := 81, cells := 0, slots := 0 }
theorem q_M_plan_b224 {l : Launch} {D : va_G} {B : Nat} {ad : Nat → Nat} {r : Int64 × Me} (rec224 : Int64 → Int32 → Me → Option (Int64 × Me)) (hrec224 : ∀ (v7 : Int64) (v9 : Int32) (M : Me) , rec224 v7 v9 M = some r → ab_V (ab_km l D B ad y_M_plan rm_M_plan (.ok (some (.long r.1))) (lay r.2)) ad 224 [(0, .ref 3), (7, .long v7), (9, .int v9)] [] (lay M) 0 0) (v7 : Int64) (v9 : Int32) (M : Me) (hyp : M_plan_b224 rec224 v7 v9 M = some r) : ab_V (ab_km l D B ad y_M_plan rm_M_plan (.ok (some (.long r.1))) (lay r.2)) ad 224 [(0, .ref 3), (7, .long v7), (9, .int v9)] [] (lay M) 0 0 := by
  unfold M_plan_b224 at hyp
  refine ab_iload 226 d_M_plan_224 rfl ?_
  refine ab_aload_n 227 d_M_plan_226 rfl ?_
  refine ab_get 230 d_M_plan_227 fd_37 rfl rfl ?_
  refine ab_ic_ge 265 233 d_M_plan_230 (fun z1 => ?_) (fun z1 => ?_)
  · replace hyp := ab_pos z1 hyp
    refine ab_lload 267 d_M_plan_265 rfl ?_
    cases hyp
    exact ab_lreturn d_M_plan_267 rfl rfl rfl (Nat.le_of_ble_eq_true rfl) (Nat.le_of_ble_eq_true rfl)
  · replace hyp := ab_neg z1 hyp
    refine ab_aload_n 234 d_M_plan_233 rfl ?_
    refine ab_get 237 d_M_plan_234 fd_42 rfl rfl ?_
    refine ab_if_eq 265 240 d_M_plan_237 (fun z2 => ?_) (fun z2 => ?_)
    · replace hyp := ab_pos z2 hyp
      refine ab_lload 267 d_M_plan_265 rfl ?_
      cases hyp
      exact ab_lreturn d_M_plan_267 rfl rfl rfl (Nat.le_of_ble_eq_true rfl) (Nat.le_of_ble_eq_true rfl)
    · replace hyp := ab_neg z2 hyp
      refine ab_aload_n 241 d_M_plan_240 rfl ?_
      refine ab_get 244 d_M_plan_241 fd_41 rfl rfl ?_
      refine ab_aload_n 245 d_M_plan_244 rfl ?_
      refine ab_get 248 d_M_plan_245 fd_38 rfl rfl ?_
      refine ab_iload 250 d_M_plan_248 rfl ?_
      obtain ⟨g3, hyp⟩ := ab_gd hyp
      refine ab_ild 20 5 251 d_M_plan_250 rfl g3 ?_
      refine ab_aload_n 252 d_M_plan_251 rfl ?_
      refine ab_get 255 d_M_plan_252 fd_40 rfl rfl ?_
      refine ab_iload 257 d_M_plan_255 rfl ?_
      obtain ⟨g4, hyp⟩ := ab_gd hyp
      refine ab_ild 22 5 258 d_M_plan_257 rfl g4 ?_
      obtain ⟨g5, hyp⟩ := ab_gd hyp
      refine ab_ist 19 24 259 d_M_plan_258 rfl g5 lay_I19 ?_
      refine ab_iinc 262 [(9, _), (0, _), (7, _)] d_M_plan_259 (1 : Int32) (by decide) rfl rfl ?_
      refine ab_goto 224 d_M_plan_262 ?_
      refine ab_pick [1, 2, 0] [(0, _), (7, _), (9, _)] rfl ?_
      exact hrec224 v7 (v9 + (1 : Int32)) (sI M 19 (gI M 20 v9) (gI M 22 v9)) hyp
theorem q_M_plan_L224 {l : Launch} {D : va_G} {B : Nat} {ad : Nat → Nat} {r : Int64 × Me} : ∀ (F : Nat) (v7 : Int64) (v9 : Int32) (M : Me) , M_plan_L224 F v7 v9 M = some r → ab_V (ab_km l D B ad y_M_plan rm_M_plan (.ok (some (.long r.1))) (lay r.2)) ad 224 [(0, .ref 3), (7, .long v7), (9, .int v9)] [] (lay M) 0 0 := by
  intro F
  induction F with
  | zero =>
    intro v7 v9 M hyp
    have h2 : (none : Option (Int64 × Me)) = some r := hyp
    cases h2
  | succ F ih =>
    intro v7 v9 M hyp
    exact q_M_plan_b224 (M_plan_L224 F) ih v7 v9 M hyp
theorem q_M_plan_b143 {l : Launch} {D : va_G} {B : Nat} {ad : Nat → Nat} {r : Int64 × Me} (rec143 : Int32 → Int32 → Int64 → Int32 → Me → Option (Int64 × Me)) (hrec143 : ∀ (v1 : Int32) (v2 : Int32) (v3 : Int64) (v7 : Int32) (M : Me) , rec143 v1 v2 v3 v7 M = some r → ab_V (ab_km l D B ad y_M_plan rm_M_plan (.ok (some (.long r.1))) (lay r.2)) ad 143 [(0, .ref 3), (1, .int v1), (2, .int v2), (3, .long v3), (7, .int v7)] [] (lay M) 0 0) (v1 : Int32) (v2 : Int32) (v3 : Int64) (v7 : Int32) (M : Me) (hyp : M_plan_b143 rec143 v1 v2 v3 v7 M = some r) : ab_V (ab_km l D B ad y_M_plan rm_M_plan (.ok (some (.long r.1))) (lay r.2)) ad 143 [(0, .ref 3), (1, .int v1), (2, .int v2), (3, .long v3), (7, .int v7)] [] (lay M) 0 0 := by
  unfold M_plan_b143 at hyp
  refine ab_iload 145 d_M_plan_143 rfl ?_
  refine ab_aload_n 146 d_M_plan_145 rfl ?_
  refine ab_get 149 d_M_plan_146 fd_25 rfl rfl ?_
  refine ab_ic_ge 197 152 d_M_plan_149 (fun z1 => ?_) (fun z1 => ?_)
  · replace hyp := ab_pos z1 hyp
    refine ab_aload_n 198 d_M_plan_197 rfl ?_
    refine ab_iload_n 199 d_M_plan_198 rfl ?_
    refine ab_lload_n 200 d_M_plan_199 rfl ?_
    obtain ⟨r3, hc2, hyp⟩ := ab_bind hyp
    refine ab_callV (h' := lay r3.2) 203 0 0 [] [.long r3.1] d_M_plan_200 ok_M_findBest lk_66 (c_M_findBest hc2) rfl rfl ?_
    refine ab_lstore 205 [(7, _), (0, _), (1, _), (2, _), (3, _)] d_M_plan_203 rfl ?_
    refine ab_aload_n 206 d_M_plan_205 rfl ?_
    refine ab_lload 208 d_M_plan_206 rfl ?_
    refine ab_lconst 209 d_M_plan_208 (0 : Int64) (by decide) ?_
    refine ab_lc_lt 217 210 213 d_M_plan_209 d_M_plan_210 (fun z4 => ?_) (fun z4 => ?_)
    · replace hyp := ab_pos z4 hyp
      refine ab_iconst 218 d_M_plan_217 (0 : Int32) (by decide) ?_
      refine ab_puti 221 d_M_plan_218 fw_8 rfl (lay_F6 _ _) ?_
      refine ab_iconst 222 d_M_plan_221 (0 : Int32) (by decide) ?_
      refine ab_istore 224 [(9, _), (7, _), (0, _), (1, _), (2, _), (3, _)] d_M_plan_222 rfl ?_
      refine ab_pick [2, 1, 0] [(0, _), (7, _), (9, _)] rfl ?_
      exact q_M_plan_L224 64 r3.1 (0 : Int32) (sF r3.2 6 (0 : Int32)) hyp
    · replace hyp := ab_neg z4 hyp
      refine ab_iconst 214 d_M_plan_213 (1 : Int32) (by decide) ?_
      refine ab_goto 218 d_M_plan_214 ?_
      refine ab_puti 221 d_M_plan_218 fw_8 rfl (lay_F6 _ _) ?_
      refine ab_iconst 222 d_M_plan_221 (0 : Int32) (by decide) ?_
      refine ab_istore 224 [(9, _), (7, _), (0, _), (1, _), (2, _), (3, _)] d_M_plan_222 rfl ?_
      refine ab_pick [2, 1, 0] [(0, _), (7, _), (9, _)] rfl ?_
      exact q_M_plan_L224 64 r3.1 (0 : Int32) (sF r3.2 6 (1 : Int32)) hyp
  · replace hyp := ab_neg z1 hyp
    refine ab_aload_n 153 d_M_plan_152 rfl ?_
    refine ab_get 156 d_M_plan_153 fd_41 rfl rfl ?_
    refine ab_iload 158 d_M_plan_156 rfl ?_
    refine ab_iconst 159 d_M_plan_158 (-1 : Int32) (by decide) ?_
    obtain ⟨g5, hyp⟩ := ab_gd hyp
    refine ab_ist 19 24 160 d_M_plan_159 rfl g5 lay_I19 ?_
    refine ab_iload_n 161 d_M_plan_160 rfl ?_
    refine ab_iload 163 d_M_plan_161 rfl ?_
    refine ab_ishr 164 d_M_plan_163 ?_
    refine ab_iconst 165 d_M_plan_164 (1 : Int32) (by decide) ?_
    refine ab_iand 166 d_M_plan_165 ?_
    refine ab_iconst 167 d_M_plan_166 (1 : Int32) (by decide) ?_
    refine ab_ic_ne 191 170 d_M_plan_167 (fun z6 => ?_) (fun z6 => ?_)
    · replace hyp := ab_neg z6 hyp
      refine ab_iinc 194 [(7, _), (0, _), (1, _), (2, _), (3, _)] d_M_plan_191 (1 : Int32) (by decide) rfl rfl ?_
      refine ab_goto 143 d_M_plan_194 ?_
      refine ab_pick [1, 2, 3, 4, 0] [(0, _), (1, _), (2, _), (3, _), (7, _)] rfl ?_
      exact hrec143 v1 v2 v3 (v7 + (1 : Int32)) (sI M 19 v7 (-1 : Int32)) hyp
    · replace hyp := ab_pos z6 hyp
      refine ab_aload_n 171 d_M_plan_170 rfl ?_
      refine ab_get 174 d_M_plan_171 fd_38 rfl rfl ?_
      refine ab_aload_n 175 d_M_plan_174 rfl ?_
      refine ab_get 178 d_M_plan_175 fd_37 rfl rfl ?_
      refine ab_iload 180 d_M_plan_178 rfl ?_
      obtain ⟨g7, hyp⟩ := ab_gd hyp
      refine ab_ist 20 5 181 d_M_plan_180 rfl g7 lay_I20 ?_
      refine ab_aload_n 182 d_M_plan_181 rfl ?_
      refine ab_dupr 183 d_M_plan_182 ?_
      refine ab_get 186 d_M_plan_183 fd_37 rfl rfl ?_
      refine ab_iconst 187 d_M_plan_186 (1 : Int32) (by decide) ?_
      refine ab_iadd 188 d_M_plan_187 ?_
      refine ab_puti 191 d_M_plan_188 fw_7 rfl (lay_F7 _ _) ?_
      refine ab_iinc 194 [(7, _), (0, _), (1, _), (2, _), (3, _)] d_M_plan_191 (1 : Int32) (by decide) rfl rfl ?_
      refine ab_goto 143 d_M_plan_194 ?_
      refine ab_pick [1, 2, 3, 4, 0] [(0, _), (1, _), (2, _), (3, _), (7, _)] rfl ?_
      exact hrec143 v1 v2 v3 (v7 + (1 : Int32)) (sF (sI (sI M 19 v7 (-1 : Int32)) 20 (gF (sI M 19 v7 (-1 : Int32)) 7) v7) 7 ((gF (sI (sI M 19 v7 (-1 : Int32)) 20 (gF (sI M 19 v7 (-1 : Int32)) 7) v7) 7) + (1 : Int32))) hyp
theorem q_M_plan_L143 {l : Launch} {D : va_G} {B : Nat} {ad : Nat → Nat} {r : Int64 × Me} : ∀ (F : Nat) (v1 : Int32) (v2 : Int32) (v3 : Int64) (v7 : Int32) (M : Me) , M_plan_L143 F v1 v2 v3 v7 M = some r → ab_V (ab_km l D B ad y_M_plan rm_M_plan (.ok (some (.long r.1))) (lay r.2)) ad 143 [(0, .ref 3), (1, .int v1), (2, .int v2), (3, .long v3), (7, .int v7)] [] (lay M) 0 0 := by
  intro F
  induction F with
  | zero =>
    intro v1 v2 v3 v7 M hyp
    have h2 : (none : Option (Int64 × Me)) = some r := hyp
    cases h2
  | succ F ih =>
    intro v1 v2 v3 v7 M hyp
    exact q_M_plan_b143 (M_plan_L143 F) ih v1 v2 v3 v7 M hyp
theorem q_M_plan_c126 {l : Launch} {D : va_G} {B : Nat} {ad : Nat → Nat} {r : Int64 × Me} (v1 : Int32) (v2 : Int32) (v3 : Int64) (s0 : Int32) (s1 : Int32) (s2 : Int32) (M : Me) (hyp : M_plan_c126 v1 v2 v3 s0 s1 s2 M = some r) : ab_V (ab_km l D B ad y_M_plan rm_M_plan (.ok (some (.long r.1))) (lay r.2)) ad 126 [(0, .ref 3), (1, .int v1), (2, .int v2), (3, .long v3)] [.int s0, .int s1, .int s2, .ref 3] (lay M) 0 0 := by
  unfold M_plan_c126 at hyp
  refine ab_iconst 127 d_M_plan_126 (0 : Int32) (by decide) ?_
  obtain ⟨r2, hc1, hyp⟩ := ab_bind hyp
  refine ab_callV (h' := lay r2.2) 130 0 0 [] [.int r2.1] d_M_plan_127 ok_M_refused lk_55 (c_M_refused hc1) rfl rfl ?_
  refine ab_if_eq 135 133 d_M_plan_130 (fun z3 => ?_) (fun z3 => ?_)
  · replace hyp := ab_pos z3 hyp
    refine ab_aload_n 136 d_M_plan_135 rfl ?_
    refine ab_iconst 137 d_M_plan_136 (0 : Int32) (by decide) ?_
    refine ab_puti 140 d_M_plan_137 fw_7 rfl (lay_F7 _ _) ?_
    refine ab_iconst 141 d_M_plan_140 (0 : Int32) (by decide) ?_
    refine ab_istore 143 [(7, _), (0, _), (1, _), (2, _), (3, _)] d_M_plan_141 rfl ?_
    refine ab_pick [1, 2, 3, 4, 0] [(0, _), (1, _), (2, _), (3, _), (7, _)] rfl ?_
    exact q_M_plan_L143 64 v1 v2 v3 (0 : Int32) (sF r2.2 7 (0 : Int32)) hyp
  · replace hyp := ab_neg z3 hyp
    refine ab_lconst 134 d_M_plan_133 (0 : Int64) (by decide) ?_
    cases hyp
    exact ab_lreturn d_M_plan_134 rfl rfl rfl (Nat.le_of_ble_eq_true rfl) (Nat.le_of_ble_eq_true rfl)
theorem q_M_plan_c109 {l : Launch} {D : va_G} {B : Nat} {ad : Nat → Nat} {r : Int64 × Me} (v1 : Int32) (v2 : Int32) (v3 : Int64) (v5 : Int32) (v6 : Int32) (M : Me) (hyp : M_plan_c109 v1 v2 v3 v5 v6 M = some r) : ab_V (ab_km l D B ad y_M_plan rm_M_plan (.ok (some (.long r.1))) (lay r.2)) ad 109 [(0, .ref 3), (1, .int v1), (2, .int v2), (3, .long v3), (5, .int v5), (6, .int v6)] [.ref 3] (lay M) 0 0 := by
  unfold M_plan_c109 at hyp
  refine ab_iconst 110 d_M_plan_109 (1 : Int32) (by decide) ?_
  refine ab_goto 114 d_M_plan_110 ?_
  refine ab_iload 116 d_M_plan_114 rfl ?_
  refine ab_iload 118 d_M_plan_116 rfl ?_
  refine ab_if_ne 125 121 d_M_plan_118 (fun z1 => ?_) (fun z1 => ?_)
  · replace hyp := ab_neg z1 hyp
    refine ab_iconst 126 d_M_plan_125 (0 : Int32) (by decide) ?_
    refine ab_pick [0, 1, 2, 3] [(0, _), (1, _), (2, _), (3, _)] rfl ?_
    exact q_M_plan_c126 v1 v2 v3 (0 : Int32) v5 (1 : Int32) M hyp
  · replace hyp := ab_pos z1 hyp
    refine ab_iconst 122 d_M_plan_121 (1 : Int32) (by decide) ?_
    refine ab_goto 126 d_M_plan_122 ?_
    refine ab_pick [0, 1, 2, 3] [(0, _), (1, _), (2, _), (3, _)] rfl ?_
    exact q_M_plan_c126 v1 v2 v3 (1 : Int32) v5 (1 : Int32) M hyp
theorem q_M_plan_b26 {l : Launch} {D : va_G} {B : Nat} {ad : Nat → Nat} {r : Int64 × Me} (rec26 : Int32 → Int32 → Int64 → Int32 → Int32 → Int32 → Me → Option (Int64 × Me)) (hrec26 : ∀ (v1 : Int32) (v2 : Int32) (v3 : Int64) (v5 : Int32) (v6 : Int32) (v7 : Int32) (M : Me) , rec26 v1 v2 v3 v5 v6 v7 M = some r → ab_V (ab_km l D B ad y_M_plan rm_M_plan (.ok (some (.long r.1))) (lay r.2)) ad 26 [(0, .ref 3), (1, .int v1), (2, .int v2), (3, .long v3), (5, .int v5), (6, .int v6), (7, .int v7)] [] (lay M) 0 0) (v1 : Int32) (v2 : Int32) (v3 : Int64) (v5 : Int32) (v6 : Int32) (v7 : Int32) (M : Me) (hyp : M_plan_b26 rec26 v1 v2 v3 v5 v6 v7 M = some r) : ab_V (ab_km l D B ad y_M_plan rm_M_plan (.ok (some (.long r.1))) (lay r.2)) ad 26 [(0, .ref 3), (1, .int v1), (2, .int v2), (3, .long v3), (5, .int v5), (6, .int v6), (7, .int v7)] [] (lay M) 0 0 := by
  unfold M_plan_b26 at hyp
  refine ab_iload 28 d_M_plan_26 rfl ?_
  refine ab_aload_n 29 d_M_plan_28 rfl ?_
  refine ab_get 32 d_M_plan_29 fd_25 rfl rfl ?_
  refine ab_ic_ge 83 35 d_M_plan_32 (fun z1 => ?_) (fun z1 => ?_)
  · replace hyp := ab_pos z1 hyp
    refine ab_aload_n 84 d_M_plan_83 rfl ?_
    refine ab_iload_n 85 d_M_plan_84 rfl ?_
    refine ab_iconst 86 d_M_plan_85 (1 : Int32) (by decide) ?_
    refine ab_ic_lt 109 89 d_M_plan_86 (fun z2 => ?_) (fun z2 => ?_)
    · replace hyp := ab_pos z2 hyp
      refine ab_pick [0, 1, 2, 3, 4, 5] [(0, _), (1, _), (2, _), (3, _), (5, _), (6, _)] rfl ?_
      exact q_M_plan_c109 v1 v2 v3 v5 v6 M hyp
    · replace hyp := ab_neg z2 hyp
      refine ab_iload_n 90 d_M_plan_89 rfl ?_
      refine ab_bipush 92 d_M_plan_90 (8 : Int32) (by decide) ?_
      refine ab_ic_gt 109 95 d_M_plan_92 (fun z3 => ?_) (fun z3 => ?_)
      · replace hyp := ab_pos z3 hyp
        refine ab_pick [0, 1, 2, 3, 4, 5] [(0, _), (1, _), (2, _), (3, _), (5, _), (6, _)] rfl ?_
        exact q_M_plan_c109 v1 v2 v3 v5 v6 M hyp
      · replace hyp := ab_neg z3 hyp
        refine ab_iload_n 96 d_M_plan_95 rfl ?_
        obtain ⟨r5, hc4, hyp⟩ := ab_bind hyp
        refine ab_callS (h' := lay M) 99 0 0 [.ref 3] [.int r5, .ref 3] d_M_plan_96 ok_M_bitsOf lk_65 (c_M_bitsOf hc4) rfl ?_
        refine ab_iconst 100 d_M_plan_99 (5 : Int32) (by decide) ?_
        refine ab_ic_gt 109 103 d_M_plan_100 (fun z6 => ?_) (fun z6 => ?_)
        · replace hyp := ab_pos z6 hyp
          refine ab_pick [0, 1, 2, 3, 4, 5] [(0, _), (1, _), (2, _), (3, _), (5, _), (6, _)] rfl ?_
          exact q_M_plan_c109 v1 v2 v3 v5 v6 M hyp
        · replace hyp := ab_neg z6 hyp
          refine ab_lload_n 104 d_M_plan_103 rfl ?_
          refine ab_lconst 105 d_M_plan_104 (0 : Int64) (by decide) ?_
          refine ab_lc_ge 113 106 109 d_M_plan_105 d_M_plan_106 (fun z7 => ?_) (fun z7 => ?_)
          · replace hyp := ab_pos z7 hyp
            refine ab_iconst 114 d_M_plan_113 (0 : Int32) (by decide) ?_
            refine ab_iload 116 d_M_plan_114 rfl ?_
            refine ab_iload 118 d_M_plan_116 rfl ?_
            refine ab_if_ne 125 121 d_M_plan_118 (fun z8 => ?_) (fun z8 => ?_)
            · replace hyp := ab_neg z8 hyp
              refine ab_iconst 126 d_M_plan_125 (0 : Int32) (by decide) ?_
              refine ab_pick [0, 1, 2, 3] [(0, _), (1, _), (2, _), (3, _)] rfl ?_
              exact q_M_plan_c126 v1 v2 v3 (0 : Int32) v5 (0 : Int32) M hyp
            · replace hyp := ab_pos z8 hyp
              refine ab_iconst 122 d_M_plan_121 (1 : Int32) (by decide) ?_
              refine ab_goto 126 d_M_plan_122 ?_
              refine ab_pick [0, 1, 2, 3] [(0, _), (1, _), (2, _), (3, _)] rfl ?_
              exact q_M_plan_c126 v1 v2 v3 (1 : Int32) v5 (0 : Int32) M hyp
          · replace hyp := ab_neg z7 hyp
            refine ab_pick [0, 1, 2, 3, 4, 5] [(0, _), (1, _), (2, _), (3, _), (5, _), (6, _)] rfl ?_
            exact q_M_plan_c109 v1 v2 v3 v5 v6 M hyp
  · replace hyp := ab_neg z1 hyp
    refine ab_iload 37 d_M_plan_35 rfl ?_
    refine ab_if_eq 74 40 d_M_plan_37 (fun z9 => ?_) (fun z9 => ?_)
    · replace hyp := ab_pos z9 hyp
      refine ab_iconst 75 d_M_plan_74 (0 : Int32) (by decide) ?_
      refine ab_istore 77 [(6, _), (0, _), (1, _), (2, _), (3, _), (5, _), (7, _)] d_M_plan_75 rfl ?_
      refine ab_iinc 80 [(7, _), (6, _), (0, _), (1, _), (2, _), (3, _), (5, _)] d_M_plan_77 (1 : Int32) (by decide) rfl rfl ?_
      refine ab_goto 26 d_M_plan_80 ?_
      refine ab_pick [2, 3, 4, 5, 6, 1, 0] [(0, _), (1, _), (2, _), (3, _), (5, _), (6, _), (7, _)] rfl ?_
      exact hrec26 v1 v2 v3 v5 (0 : Int32) (v7 + (1 : Int32)) M hyp
    · replace hyp := ab_neg z9 hyp
      refine ab_iload_n 41 d_M_plan_40 rfl ?_
      refine ab_iload 43 d_M_plan_41 rfl ?_
      refine ab_ishr 44 d_M_plan_43 ?_
      refine ab_iconst 45 d_M_plan_44 (1 : Int32) (by decide) ?_
      refine ab_iand 46 d_M_plan_45 ?_
      refine ab_if_eq 70 49 d_M_plan_46 (fun z10 => ?_) (fun z10 => ?_)
      · replace hyp := ab_pos z10 hyp
        refine ab_iconst 71 d_M_plan_70 (1 : Int32) (by decide) ?_
        refine ab_goto 75 d_M_plan_71 ?_
        refine ab_istore 77 [(6, _), (0, _), (1, _), (2, _), (3, _), (5, _), (7, _)] d_M_plan_75 rfl ?_
        refine ab_iinc 80 [(7, _), (6, _), (0, _), (1, _), (2, _), (3, _), (5, _)] d_M_plan_77 (1 : Int32) (by decide) rfl rfl ?_
        refine ab_goto 26 d_M_plan_80 ?_
        refine ab_pick [2, 3, 4, 5, 6, 1, 0] [(0, _), (1, _), (2, _), (3, _), (5, _), (6, _), (7, _)] rfl ?_
        exact hrec26 v1 v2 v3 v5 (1 : Int32) (v7 + (1 : Int32)) M hyp
      · replace hyp := ab_neg z10 hyp
        refine ab_aload_n 50 d_M_plan_49 rfl ?_
        refine ab_get 53 d_M_plan_50 fd_26 rfl rfl ?_
        refine ab_iload 55 d_M_plan_53 rfl ?_
        obtain ⟨g11, hyp⟩ := ab_gd hyp
        refine ab_ild 14 24 56 d_M_plan_55 rfl g11 ?_
        refine ab_iconst 57 d_M_plan_56 (1 : Int32) (by decide) ?_
        refine ab_ic_ne 74 60 d_M_plan_57 (fun z12 => ?_) (fun z12 => ?_)
        · replace hyp := ab_neg z12 hyp
          refine ab_iconst 75 d_M_plan_74 (0 : Int32) (by decide) ?_
          refine ab_istore 77 [(6, _), (0, _), (1, _), (2, _), (3, _), (5, _), (7, _)] d_M_plan_75 rfl ?_
          refine ab_iinc 80 [(7, _), (6, _), (0, _), (1, _), (2, _), (3, _), (5, _)] d_M_plan_77 (1 : Int32) (by decide) rfl rfl ?_
          refine ab_goto 26 d_M_plan_80 ?_
          refine ab_pick [2, 3, 4, 5, 6, 1, 0] [(0, _), (1, _), (2, _), (3, _), (5, _), (6, _), (7, _)] rfl ?_
          exact hrec26 v1 v2 v3 v5 (0 : Int32) (v7 + (1 : Int32)) M hyp
        · replace hyp := ab_pos z12 hyp
          refine ab_aload_n 61 d_M_plan_60 rfl ?_
          refine ab_get 64 d_M_plan_61 fd_33 rfl rfl ?_
          refine ab_iload 66 d_M_plan_64 rfl ?_
          obtain ⟨g13, hyp⟩ := ab_gd hyp
          refine ab_zld 16 24 67 d_M_plan_66 rfl g13 ?_
          refine ab_if_ne 74 70 d_M_plan_67 (fun z14 => ?_) (fun z14 => ?_)
          · replace hyp := ab_neg z14 hyp
            refine ab_iconst 75 d_M_plan_74 (0 : Int32) (by decide) ?_
            refine ab_istore 77 [(6, _), (0, _), (1, _), (2, _), (3, _), (5, _), (7, _)] d_M_plan_75 rfl ?_
            refine ab_iinc 80 [(7, _), (6, _), (0, _), (1, _), (2, _), (3, _), (5, _)] d_M_plan_77 (1 : Int32) (by decide) rfl rfl ?_
            refine ab_goto 26 d_M_plan_80 ?_
            refine ab_pick [2, 3, 4, 5, 6, 1, 0] [(0, _), (1, _), (2, _), (3, _), (5, _), (6, _), (7, _)] rfl ?_
            exact hrec26 v1 v2 v3 v5 (0 : Int32) (v7 + (1 : Int32)) M hyp
          · replace hyp := ab_pos z14 hyp
            refine ab_iconst 71 d_M_plan_70 (1 : Int32) (by decide) ?_
            refine ab_goto 75 d_M_plan_71 ?_
            refine ab_istore 77 [(6, _), (0, _), (1, _), (2, _), (3, _), (5, _), (7, _)] d_M_plan_75 rfl ?_
            refine ab_iinc 80 [(7, _), (6, _), (0, _), (1, _), (2, _), (3, _), (5, _)] d_M_plan_77 (1 : Int32) (by decide) rfl rfl ?_
            refine ab_goto 26 d_M_plan_80 ?_
            refine ab_pick [2, 3, 4, 5, 6, 1, 0] [(0, _), (1, _), (2, _), (3, _), (5, _), (6, _), (7, _)] rfl ?_
            exact hrec26 v1 v2 v3 v5 (1 : Int32) (v7 + (1 : Int32)) M hyp
theorem q_M_plan_L26 {l : Launch} {D : va_G} {B : Nat} {ad : Nat → Nat} {r : Int64 × Me} : ∀ (F : Nat) (v1 : Int32) (v2 : Int32) (v3 : Int64) (v5 : Int32) (v6 : Int32) (v7 : Int32) (M : Me) , M_plan_L26 F v1 v2 v3 v5 v6 v7 M = some r → ab_V (ab_km l D B ad y_M_plan rm_M_plan (.ok (some (.long r.1))) (lay r.2)) ad 26 [(0, .ref 3), (1, .int v1), (2, .int v2), (3, .long v3), (5, .int v5), (6, .int v6), (7, .int v7)] [] (lay M) 0 0 := by
  intro F
  induction F with
  | zero =>
    intro v1 v2 v3 v5 v6 v7 M hyp
    have h2 : (none : Option (Int64 × Me)) = some r := hyp
    cases h2
  | succ F ih =>
    intro v1 v2 v3 v5 v6 v7 M hyp
    exact q_M_plan_b26 (M_plan_L26 F) ih v1 v2 v3 v5 v6 v7 M hyp
theorem c_M_plan {M : Me} {v1 : Int32} {v2 : Int32} {v3 : Int64} {r : Int64 × Me} (hyp : M_plan M v1 v2 v3 = some r) : ab_Met y_M_plan rm_M_plan [.ref 3, .int v1, .int v2, .long v3] (lay M) (.ok (some (.long r.1))) (lay r.2) := by
  refine ab_start rfl rfl (Nat.le_of_ble_eq_true rfl) (fun l D B ad => ?_)
  show ab_V _ ad 0 [(0, .ref 3), (1, .int v1), (2, .int v2), (3, .long v3)] [] _ 0 0
  unfold M_plan at hyp
  refine ab_iload_n 1 d_M_plan_0 rfl ?_
  refine ab_aload_n 2 d_M_plan_1 rfl ?_
  refine ab_get 5 d_M_plan_2 fd_25 rfl rfl ?_
  refine ab_ishr 6 d_M_plan_5 ?_
  refine ab_if_ne 13 9 d_M_plan_6 (fun z1 => ?_) (fun z1 => ?_)
  · replace hyp := ab_neg z1 hyp
    refine ab_iconst 14 d_M_plan_13 (1 : Int32) (by decide) ?_
    refine ab_goto 18 d_M_plan_14 ?_
    refine ab_istore 20 [(5, _), (0, _), (1, _), (2, _), (3, _)] d_M_plan_18 rfl ?_
    refine ab_iconst 21 d_M_plan_20 (1 : Int32) (by decide) ?_
    refine ab_istore 23 [(6, _), (5, _), (0, _), (1, _), (2, _), (3, _)] d_M_plan_21 rfl ?_
    refine ab_iconst 24 d_M_plan_23 (0 : Int32) (by decide) ?_
    refine ab_istore 26 [(7, _), (6, _), (5, _), (0, _), (1, _), (2, _), (3, _)] d_M_plan_24 rfl ?_
    refine ab_pick [3, 4, 5, 6, 2, 1, 0] [(0, _), (1, _), (2, _), (3, _), (5, _), (6, _), (7, _)] rfl ?_
    exact q_M_plan_L26 64 v1 v2 v3 (1 : Int32) (1 : Int32) (0 : Int32) M hyp
  · replace hyp := ab_pos z1 hyp
    refine ab_iload_n 10 d_M_plan_9 rfl ?_
    refine ab_if_ge 17 13 d_M_plan_10 (fun z2 => ?_) (fun z2 => ?_)
    · replace hyp := ab_pos z2 hyp
      refine ab_iconst 18 d_M_plan_17 (0 : Int32) (by decide) ?_
      refine ab_istore 20 [(5, _), (0, _), (1, _), (2, _), (3, _)] d_M_plan_18 rfl ?_
      refine ab_iconst 21 d_M_plan_20 (1 : Int32) (by decide) ?_
      refine ab_istore 23 [(6, _), (5, _), (0, _), (1, _), (2, _), (3, _)] d_M_plan_21 rfl ?_
      refine ab_iconst 24 d_M_plan_23 (0 : Int32) (by decide) ?_
      refine ab_istore 26 [(7, _), (6, _), (5, _), (0, _), (1, _), (2, _), (3, _)] d_M_plan_24 rfl ?_
      refine ab_pick [3, 4, 5, 6, 2, 1, 0] [(0, _), (1, _), (2, _), (3, _), (5, _), (6, _), (7, _)] rfl ?_
      exact q_M_plan_L26 64 v1 v2 v3 (0 : Int32) (1 : Int32) (0 : Int32) M hyp
    · replace hyp := ab_neg z2 hyp
      refine ab_iconst 14 d_M_plan_13 (1 : Int32) (by decide) ?_
      refine ab_goto 18 d_M_plan_14 ?_
      refine ab_istore 20 [(5, _), (0, _), (1, _), (2, _), (3, _)] d_M_plan_18 rfl ?_
      refine ab_iconst 21 d_M_plan_20 (1 : Int32) (by decide) ?_
      refine ab_istore 23 [(6, _), (5, _), (0, _), (1, _), (2, _), (3, _)] d_M_plan_21 rfl ?_
      refine ab_iconst 24 d_M_plan_23 (0 : Int32) (by decide) ?_
      refine ab_istore 26 [(7, _), (6, _), (5, _), (0, _), (1, _), (2, _), (3, _)] d_M_plan_24 rfl ?_
      refine ab_pick [3, 4, 5, 6, 2, 1, 0] [(0, _), (1, _), (2, _), (3, _), (5, _), (6, _), (7, _)] rfl ?_
      exact q_M_plan_L26 64 v1 v2 v3 (1 : Int32) (1 : Int32) (0 : Int32) M hyp
/-! M_bull -/
def M_bull_c14 (v1 : Int32) (s0 : Int32) (M : Me) : Option (Int32 × Me) :=
  Option.bind (M_refused M s0 (0 : Int32) (0 : Int32) (0 : Int32)) (fun r2 => if r2.1 = (0 : Int32) then (gd (inb v1 24) (some ((gI r2.2 19 v1), r2.2))) else (some ((0 : Int32), r2.2)))
def M_bull (M : Me) (v1 : Int32) : Option (Int32 × Me) :=
  Option.bind (M_is M v1) (fun r2 => if r2 = (0 : Int32) then (M_bull_c14 v1 (1 : Int32) M) else (M_bull_c14 v1 (0 : Int32) M))
def rm_M_bull : Room := { frames := 1, locals := 24, cells := 0, slots := 0 }
theorem q_M_bull_c14 {l : Launch} {D : va_G} {B : Nat} {ad : Nat → Nat} {r : Int32 × Me} (v1 : Int32) (s0 : Int32) (M : Me) (hyp : M_bull_c14 v1 s0 M = some r) : ab_V (ab_km l D B ad y_M_bull rm_M_bull (.ok (some (.int r.1))) (lay r.2)) ad 14 [(0, .ref 3), (1, .int v1)] [.int s0, .ref 3] (lay M) 0 0 := by
  unfold M_bull_c14 at hyp
  refine ab_iconst 15 d_M_bull_14 (0 : Int32) (by decide) ?_
  refine ab_iconst 16 d_M_bull_15 (0 : Int32) (by decide) ?_
  refine ab_iconst 17 d_M_bull_16 (0 : Int32) (by decide) ?_
  obtain ⟨r2, hc1, hyp⟩ := ab_bind hyp
  refine ab_callV (h' := lay r2.2) 20 0 0 [] [.int r2.1] d_M_bull_17 ok_M_refused lk_55 (c_M_refused hc1) rfl rfl ?_
  refine ab_if_eq 27 23 d_M_bull_20 (fun z3 => ?_) (fun z3 => ?_)
  · replace hyp := ab_pos z3 hyp
    refine ab_aload_n 28 d_M_bull_27 rfl ?_
    refine ab_get 31 d_M_bull_28 fd_41 rfl rfl ?_
    refine ab_iload_n 32 d_M_bull_31 rfl ?_
    obtain ⟨g4, hyp⟩ := ab_gd hyp
    refine ab_ild 19 24 33 d_M_bull_32 rfl g4 ?_
    cases hyp
    exact ab_ireturn d_M_bull_33 rfl rfl rfl (Nat.le_of_ble_eq_true rfl) (Nat.le_of_ble_eq_true rfl)
  · replace hyp := ab_neg z3 hyp
    refine ab_iconst 24 d_M_bull_23 (0 : Int32) (by decide) ?_
    refine ab_goto 33 d_M_bull_24 ?_
    cases hyp
    exact ab_ireturn d_M_bull_33 rfl rfl rfl (Nat.le_of_ble_eq_true rfl) (Nat.le_of_ble_eq_true rfl)
theorem c_M_bull {M : Me} {v1 : Int32} {r : Int32 × Me} (hyp : M_bull M v1 = some r) : ab_Met y_M_bull rm_M_bull [.ref 3, .int v1] (lay M) (.ok (some (.int r.1))) (lay r.2) := by
  refine ab_start rfl rfl (Nat.le_of_ble_eq_true rfl) (fun l D B ad => ?_)
  show ab_V _ ad 0 [(0, .ref 3), (1, .int v1)] [] _ 0 0
  unfold M_bull at hyp
  refine ab_aload_n 1 d_M_bull_0 rfl ?_
  refine ab_aload_n 2 d_M_bull_1 rfl ?_
  refine ab_iload_n 3 d_M_bull_2 rfl ?_
  obtain ⟨r2, hc1, hyp⟩ := ab_bind hyp
  refine ab_callV (h' := lay M) 6 0 0 [.ref 3] [.int r2, .ref 3] d_M_bull_3 ok_M_is lk_51 (c_M_is hc1) rfl rfl ?_
  refine ab_if_ne 13 9 d_M_bull_6 (fun z3 => ?_) (fun z3 => ?_)
  · replace hyp := ab_neg z3 hyp
    refine ab_iconst 14 d_M_bull_13 (0 : Int32) (by decide) ?_
    refine ab_pick [0, 1] [(0, _), (1, _)] rfl ?_
    exact q_M_bull_c14 v1 (0 : Int32) M hyp
  · replace hyp := ab_pos z3 hyp
    refine ab_iconst 10 d_M_bull_9 (1 : Int32) (by decide) ?_
    refine ab_goto 14 d_M_bull_10 ?_
    refine ab_pick [0, 1] [(0, _), (1, _)] rfl ?_
    exact q_M_bull_c14 v1 (1 : Int32) M hyp
/-! M_planned -/
def M_planned_b9 (rec9 : Int64 → Int32 → Me → Option (Int64 × Me)) (v1 : Int64) (v3 : Int32) (M : Me) : Option (Int64 × Me) :=
  if (gF M 5) ≤ v3 then (if (gF M 6) = (0 : Int32) then (some ((-1 : Int64), M)) else (some (v1, M))) else (gd (inb v3 24) (if (0 : Int32) ≤ (gI M 19 v3) then (gd (inb v3 24) (Option.bind (M_kinOf M v3 (gI M 19 v3)) (fun r7 => rec9 (v1 + r7) (v3 + (1 : Int32)) M))) else (rec9 v1 (v3 + (1 : Int32)) M)))
def M_planned_L9 : Nat → Int64 → Int32 → Me → Option (Int64 × Me)
  | 0, _, _, _ => none
  | F + 1, v1, v3, M => M_planned_b9 (M_planned_L9 F) v1 v3 M
def M_planned (M : Me) : Option (Int64 × Me) :=
  M_planned_L9 64 (0 : Int64) (0 : Int32) (sF M 4 (0 : Int32))
def rm_M_planned : Room := { frames := 1, locals := 22, cells := 0, slots := 0 }
theorem q_M_planned_b9 {l : Launch} {D : va_G} {B : Nat} {ad : Nat → Nat} {r : Int64 × Me} (rec9 : Int64 → Int32 → Me → Option (Int64 × Me)) (hrec9 : ∀ (v1 : Int64) (v3 : Int32) (M : Me) , rec9 v1 v3 M = some r → ab_V (ab_km l D B ad y_M_planned rm_M_planned (.ok (some (.long r.1))) (lay r.2)) ad 9 [(0, .ref 3), (1, .long v1), (3, .int v3)] [] (lay M) 0 0) (v1 : Int64) (v3 : Int32) (M : Me) (hyp : M_planned_b9 rec9 v1 v3 M = some r) : ab_V (ab_km l D B ad y_M_planned rm_M_planned (.ok (some (.long r.1))) (lay r.2)) ad 9 [(0, .ref 3), (1, .long v1), (3, .int v3)] [] (lay M) 0 0 := by
  unfold M_planned_b9 at hyp
  refine ab_iload_n 10 d_M_planned_9 rfl ?_
  refine ab_aload_n 11 d_M_planned_10 rfl ?_
  refine ab_get 14 d_M_planned_11 fd_25 rfl rfl ?_
  refine ab_ic_ge 50 17 d_M_planned_14 (fun z1 => ?_) (fun z1 => ?_)
  · replace hyp := ab_pos z1 hyp
    refine ab_aload_n 51 d_M_planned_50 rfl ?_
    refine ab_get 54 d_M_planned_51 fd_42 rfl rfl ?_
    refine ab_if_eq 61 57 d_M_planned_54 (fun z2 => ?_) (fun z2 => ?_)
    · replace hyp := ab_pos z2 hyp
      refine ab_ldc2 (v := (-1 : Int64)) 64 d_M_planned_61 w_9 ?_
      cases hyp
      exact ab_lreturn d_M_planned_64 rfl rfl rfl (Nat.le_of_ble_eq_true rfl) (Nat.le_of_ble_eq_true rfl)
    · replace hyp := ab_neg z2 hyp
      refine ab_lload_n 58 d_M_planned_57 rfl ?_
      refine ab_goto 64 d_M_planned_58 ?_
      cases hyp
      exact ab_lreturn d_M_planned_64 rfl rfl rfl (Nat.le_of_ble_eq_true rfl) (Nat.le_of_ble_eq_true rfl)
  · replace hyp := ab_neg z1 hyp
    refine ab_aload_n 18 d_M_planned_17 rfl ?_
    refine ab_get 21 d_M_planned_18 fd_41 rfl rfl ?_
    refine ab_iload_n 22 d_M_planned_21 rfl ?_
    obtain ⟨g3, hyp⟩ := ab_gd hyp
    refine ab_ild 19 24 23 d_M_planned_22 rfl g3 ?_
    refine ab_if_ge 30 26 d_M_planned_23 (fun z4 => ?_) (fun z4 => ?_)
    · replace hyp := ab_pos z4 hyp
      refine ab_lload_n 31 d_M_planned_30 rfl ?_
      refine ab_aload_n 32 d_M_planned_31 rfl ?_
      refine ab_iload_n 33 d_M_planned_32 rfl ?_
      refine ab_aload_n 34 d_M_planned_33 rfl ?_
      refine ab_get 37 d_M_planned_34 fd_41 rfl rfl ?_
      refine ab_iload_n 38 d_M_planned_37 rfl ?_
      obtain ⟨g5, hyp⟩ := ab_gd hyp
      refine ab_ild 19 24 39 d_M_planned_38 rfl g5 ?_
      obtain ⟨r7, hc6, hyp⟩ := ab_bind hyp
      refine ab_callV (h' := lay M) 42 0 0 [.long v1] [.long r7, .long v1] d_M_planned_39 ok_M_kinOf lk_52 (c_M_kinOf hc6) rfl rfl ?_
      refine ab_ladd 43 d_M_planned_42 ?_
      refine ab_lstore_n 44 [(1, _), (0, _), (3, _)] d_M_planned_43 rfl ?_
      refine ab_iinc 47 [(3, _), (1, _), (0, _)] d_M_planned_44 (1 : Int32) (by decide) rfl rfl ?_
      refine ab_goto 9 d_M_planned_47 ?_
      refine ab_pick [2, 1, 0] [(0, _), (1, _), (3, _)] rfl ?_
      exact hrec9 (v1 + r7) (v3 + (1 : Int32)) M hyp
    · replace hyp := ab_neg z4 hyp
      refine ab_lload_n 27 d_M_planned_26 rfl ?_
      refine ab_goto 43 d_M_planned_27 ?_
      refine ab_lstore_n 44 [(1, _), (0, _), (3, _)] d_M_planned_43 rfl ?_
      refine ab_iinc 47 [(3, _), (1, _), (0, _)] d_M_planned_44 (1 : Int32) (by decide) rfl rfl ?_
      refine ab_goto 9 d_M_planned_47 ?_
      refine ab_pick [2, 1, 0] [(0, _), (1, _), (3, _)] rfl ?_
      exact hrec9 v1 (v3 + (1 : Int32)) M hyp
theorem q_M_planned_L9 {l : Launch} {D : va_G} {B : Nat} {ad : Nat → Nat} {r : Int64 × Me} : ∀ (F : Nat) (v1 : Int64) (v3 : Int32) (M : Me) , M_planned_L9 F v1 v3 M = some r → ab_V (ab_km l D B ad y_M_planned rm_M_planned (.ok (some (.long r.1))) (lay r.2)) ad 9 [(0, .ref 3), (1, .long v1), (3, .int v3)] [] (lay M) 0 0 := by
  intro F
  induction F with
  | zero =>
    intro v1 v3 M hyp
    have h2 : (none : Option (Int64 × Me)) = some r := hyp
    cases h2
  | succ F ih =>
    intro v1 v3 M hyp
    exact q_M_planned_b9 (M_planned_L9 F) ih v1 v3 M hyp
theorem c_M_planned {M : Me} {r : Int64 × Me} (hyp : M_planned M = some r) : ab_Met y_M_planned rm_M_planned [.ref 3] (lay M) (.ok (some (.long r.1))) (lay r.2) := by
  refine ab_start rfl rfl (Nat.le_of_ble_eq_true rfl) (fun l D B ad => ?_)
  show ab_V _ ad 0 [(0, .ref 3)] [] _ 0 0
  unfold M_planned at hyp
  refine ab_aload_n 1 d_M_planned_0 rfl ?_
  refine ab_iconst 2 d_M_planned_1 (0 : Int32) (by decide) ?_
  refine ab_puti 5 d_M_planned_2 fw_5 rfl (lay_F4 _ _) ?_
  refine ab_lconst 6 d_M_planned_5 (0 : Int64) (by decide) ?_
  refine ab_lstore_n 7 [(1, _), (0, _)] d_M_planned_6 rfl ?_
  refine ab_iconst 8 d_M_planned_7 (0 : Int32) (by decide) ?_
  refine ab_istore_n 9 [(3, _), (1, _), (0, _)] d_M_planned_8 rfl ?_
  refine ab_pick [2, 1, 0] [(0, _), (1, _), (3, _)] rfl ?_
  exact q_M_planned_L9 64 (0 : Int64) (0 : Int32) (sF M 4 (0 : Int32)) hyp
/-! L_enter -/
def L_enter (M : Me) (v1 : Int32) (v2 : Int32) (v3 : Int32) (v4 : Int32) : Option (Int32 × Me) :=
  ab_thrW (H_enter M v1 v2 v3 v4) (fun r2 M4 => gd (inb (0 : Int32) 1) (some ((0 : Int32), (sL M4 7 (0 : Int32) r2.toInt64)))) (fun E3 M4 => if E3 = "java/lang/IllegalArgumentException" then (some ((1 : Int32), M4)) else (if E3 = "java/util/NoSuchElementException" then (some ((2 : Int32), M4)) else (if E3 = "java/lang/UnsupportedOperationException" then (some ((3 : Int32), M4)) else (if E3 = "java/lang/IllegalStateException" then (some ((4 : Int32), M4)) else (none)))))
def rm_L_enter : Room := { frames := 9, locals := 149, cells := 4, slots := 24 }
theorem c_L_enter {M : Me} {v1 : Int32} {v2 : Int32} {v3 : Int32} {v4 : Int32} {r : Int32 × Me} (hyp : L_enter M v1 v2 v3 v4 = some r) : ab_Met y_L_enter rm_L_enter [.ref 0, .int v1, .int v2, .int v3, .int v4, .ref 36] (lay M) (.ok (some (.int r.1))) (lay r.2) := by
  refine ab_startH rfl rfl (Nat.le_of_ble_eq_true rfl) (fun l D B ad => ?_)
  show ab_V _ ad 0 [(0, .ref 0), (1, .int v1), (2, .int v2), (3, .int v3), (4, .int v4), (5, .ref 36)] [] _ 0 0
  unfold L_enter at hyp
  refine ab_aload 2 d_L_enter_0 rfl ?_
  refine ab_iconst 3 d_L_enter_2 (0 : Int32) (by decide) ?_
  refine ab_aload_n 4 d_L_enter_3 rfl ?_
  refine ab_iload_n 5 d_L_enter_4 rfl ?_
  refine ab_iload_n 6 d_L_enter_5 rfl ?_
  refine ab_iload_n 7 d_L_enter_6 rfl ?_
  refine ab_iload 9 d_L_enter_7 rfl ?_
  rcases ab_thrW_cases hyp with ⟨r2, M4, hc1, hyp⟩ | ⟨E3, M4, hc1, hyp⟩
  · refine ab_callV (h' := lay M4) 12 4 24 [.int ((0 : Int32)), .ref 36] [.int r2, .int ((0 : Int32)), .ref 36] d_L_enter_9 ok_H_enter lk_67 (c_H_enter hc1) rfl rfl ?_
    refine ab_i2l 13 d_L_enter_12 ?_
    obtain ⟨g5, hyp⟩ := ab_gd hyp
    refine ab_lst 7 1 14 d_L_enter_13 rfl g5 lay_L7 ?_
    refine ab_goto 33 d_L_enter_14 ?_
    refine ab_iconst 34 d_L_enter_33 (0 : Int32) (by decide) ?_
    cases hyp
    exact ab_ireturn d_L_enter_34 rfl rfl rfl (Nat.le_of_ble_eq_true rfl) (Nat.le_of_ble_eq_true rfl)
  · by_cases z9 : E3 = "java/lang/IllegalArgumentException"
    · replace hyp := ab_pos z9 hyp
      subst z9
      refine ab_callVX (h' := lay M4) 4 24 [.int ((0 : Int32)), .ref 36] d_L_enter_9 ok_H_enter lk_67 (c_H_enter hc1) rfl rfl ?_
      refine ab_catch 0 19 [(0, _), (1, _), (2, _), (3, _), (4, _), (5, _)] rfl ce_3 d_L_enter_17 rfl ?_
      refine ab_iconst 20 d_L_enter_19 (1 : Int32) (by decide) ?_
      cases hyp
      exact ab_ireturn d_L_enter_20 rfl rfl rfl (Nat.le_of_ble_eq_true rfl) (Nat.le_of_ble_eq_true rfl)
    · replace hyp := ab_neg z9 hyp
      by_cases z8 : E3 = "java/util/NoSuchElementException"
      · replace hyp := ab_pos z8 hyp
        subst z8
        refine ab_callVX (h' := lay M4) 4 24 [.int ((0 : Int32)), .ref 36] d_L_enter_9 ok_H_enter lk_67 (c_H_enter hc1) rfl rfl ?_
        refine ab_catch 1 23 [(0, _), (1, _), (2, _), (3, _), (4, _), (5, _)] rfl ce_2 d_L_enter_21 rfl ?_
        refine ab_iconst 24 d_L_enter_23 (2 : Int32) (by decide) ?_
        cases hyp
        exact ab_ireturn d_L_enter_24 rfl rfl rfl (Nat.le_of_ble_eq_true rfl) (Nat.le_of_ble_eq_true rfl)
      · replace hyp := ab_neg z8 hyp
        by_cases z7 : E3 = "java/lang/UnsupportedOperationException"
        · replace hyp := ab_pos z7 hyp
          subst z7
          refine ab_callVX (h' := lay M4) 4 24 [.int ((0 : Int32)), .ref 36] d_L_enter_9 ok_H_enter lk_67 (c_H_enter hc1) rfl rfl ?_
          refine ab_catch 2 27 [(0, _), (1, _), (2, _), (3, _), (4, _), (5, _)] rfl ce_1 d_L_enter_25 rfl ?_
          refine ab_iconst 28 d_L_enter_27 (3 : Int32) (by decide) ?_
          cases hyp
          exact ab_ireturn d_L_enter_28 rfl rfl rfl (Nat.le_of_ble_eq_true rfl) (Nat.le_of_ble_eq_true rfl)
        · replace hyp := ab_neg z7 hyp
          by_cases z6 : E3 = "java/lang/IllegalStateException"
          · replace hyp := ab_pos z6 hyp
            subst z6
            refine ab_callVX (h' := lay M4) 4 24 [.int ((0 : Int32)), .ref 36] d_L_enter_9 ok_H_enter lk_67 (c_H_enter hc1) rfl rfl ?_
            refine ab_catch 3 31 [(0, _), (1, _), (2, _), (3, _), (4, _), (5, _)] rfl ce_0 d_L_enter_29 rfl ?_
            refine ab_iconst 32 d_L_enter_31 (4 : Int32) (by decide) ?_
            cases hyp
            exact ab_ireturn d_L_enter_32 rfl rfl rfl (Nat.le_of_ble_eq_true rfl) (Nat.le_of_ble_eq_true rfl)
          · replace hyp := ab_neg z6 hyp
            cases hyp
/-! L_correct -/
def L_correct (M : Me) (v1 : Int32) (v2 : Int32) (v3 : Int32) : Option (Int32 × Me) :=
  ab_thrW (H_correct M v1 v2 v3) (fun r2 M4 => gd (inb (0 : Int32) 1) (some ((0 : Int32), (sL M4 7 (0 : Int32) r2.toInt64)))) (fun E3 M4 => if E3 = "java/util/NoSuchElementException" then (some ((1 : Int32), M4)) else (if E3 = "java/lang/UnsupportedOperationException" then (some ((2 : Int32), M4)) else (none)))
def rm_L_correct : Room := { frames := 9, locals := 147, cells := 5, slots := 30 }
theorem c_L_correct {M : Me} {v1 : Int32} {v2 : Int32} {v3 : Int32} {r : Int32 × Me} (hyp : L_correct M v1 v2 v3 = some r) : ab_Met y_L_correct rm_L_correct [.ref 0, .int v1, .int v2, .int v3, .ref 36] (lay M) (.ok (some (.int r.1))) (lay r.2) := by
  refine ab_startH rfl rfl (Nat.le_of_ble_eq_true rfl) (fun l D B ad => ?_)
  show ab_V _ ad 0 [(0, .ref 0), (1, .int v1), (2, .int v2), (3, .int v3), (4, .ref 36)] [] _ 0 0
  unfold L_correct at hyp
  refine ab_aload 2 d_L_correct_0 rfl ?_
  refine ab_iconst 3 d_L_correct_2 (0 : Int32) (by decide) ?_
  refine ab_aload_n 4 d_L_correct_3 rfl ?_
  refine ab_iload_n 5 d_L_correct_4 rfl ?_
  refine ab_iload_n 6 d_L_correct_5 rfl ?_
  refine ab_iload_n 7 d_L_correct_6 rfl ?_
  rcases ab_thrW_cases hyp with ⟨r2, M4, hc1, hyp⟩ | ⟨E3, M4, hc1, hyp⟩
  · refine ab_callV (h' := lay M4) 10 5 30 [.int ((0 : Int32)), .ref 36] [.int r2, .int ((0 : Int32)), .ref 36] d_L_correct_7 ok_H_correct lk_68 (c_H_correct hc1) rfl rfl ?_
    refine ab_i2l 11 d_L_correct_10 ?_
    obtain ⟨g5, hyp⟩ := ab_gd hyp
    refine ab_lst 7 1 12 d_L_correct_11 rfl g5 lay_L7 ?_
    refine ab_goto 23 d_L_correct_12 ?_
    refine ab_iconst 24 d_L_correct_23 (0 : Int32) (by decide) ?_
    cases hyp
    exact ab_ireturn d_L_correct_24 rfl rfl rfl (Nat.le_of_ble_eq_true rfl) (Nat.le_of_ble_eq_true rfl)
  · by_cases z7 : E3 = "java/util/NoSuchElementException"
    · replace hyp := ab_pos z7 hyp
      subst z7
      refine ab_callVX (h' := lay M4) 5 30 [.int ((0 : Int32)), .ref 36] d_L_correct_7 ok_H_correct lk_68 (c_H_correct hc1) rfl rfl ?_
      refine ab_catch 0 17 [(0, _), (1, _), (2, _), (3, _), (4, _)] rfl ce_5 d_L_correct_15 rfl ?_
      refine ab_iconst 18 d_L_correct_17 (1 : Int32) (by decide) ?_
      cases hyp
      exact ab_ireturn d_L_correct_18 rfl rfl rfl (Nat.le_of_ble_eq_true rfl) (Nat.le_of_ble_eq_true rfl)
    · replace hyp := ab_neg z7 hyp
      by_cases z6 : E3 = "java/lang/UnsupportedOperationException"
      · replace hyp := ab_pos z6 hyp
        subst z6
        refine ab_callVX (h' := lay M4) 5 30 [.int ((0 : Int32)), .ref 36] d_L_correct_7 ok_H_correct lk_68 (c_H_correct hc1) rfl rfl ?_
        refine ab_catch 1 21 [(0, _), (1, _), (2, _), (3, _), (4, _)] rfl ce_4 d_L_correct_19 rfl ?_
        refine ab_iconst 22 d_L_correct_21 (2 : Int32) (by decide) ?_
        cases hyp
        exact ab_ireturn d_L_correct_22 rfl rfl rfl (Nat.le_of_ble_eq_true rfl) (Nat.le_of_ble_eq_true rfl)
      · replace hyp := ab_neg z6 hyp
        cases hyp
