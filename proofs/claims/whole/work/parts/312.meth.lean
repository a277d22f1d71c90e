/-! M_findBest -/
def M_findBest_c283 (rec63 : Int32 → Int64 → Int64 → Int64 → Int32 → Me → Option (Int64 × Me)) (v1 : Int32) (v2 : Int64) (v4 : Int64) (v6 : Int64) (v8 : Int32) (s0 : Int32) (M : Me) : Option (Int64 × Me) :=
  if s0 = (0 : Int32) then (rec63 v1 v2 v4 v6 v8 M) else (rec63 v1 v2 v4 v6 (v8 + (1 : Int32)) M)
def M_findBest_c168 (rec63 : Int32 → Int64 → Int64 → Int64 → Int32 → Me → Option (Int64 × Me)) (v1 : Int32) (v2 : Int64) (v4 : Int64) (v6 : Int64) (v8 : Int32) (M : Me) : Option (Int64 × Me) :=
  gd (inb v8 5) (gd (inb v8 5) (Option.bind (M_nextBull M (gI M 20 v8) ((gI M 21 v8) + (1 : Int32)) v1 v2) (fun r4 => if r4 = (gF M 5) then (gd (inb v8 5) (rec63 v1 v2 v4 v6 (v8 + (-1 : Int32)) (sI M 21 v8 (-1 : Int32)))) else (gd (inb v8 5) (gd (inb r4 24) (gd (inb r4 24) (gd (inb v8 5) (Option.bind (M_kinOf (sI (sI M 21 v8 r4) 23 r4 ((gI (sI M 21 v8 r4) 23 r4) + (1 : Int32))) (gI (sI (sI M 21 v8 r4) 23 r4 ((gI (sI M 21 v8 r4) 23 r4) + (1 : Int32))) 20 v8) r4) (fun r11 => if v4 < (0 : Int64) then (M_findBest_c283 rec63 v1 v2 v4 (v6 + r11) v8 (1 : Int32) (sI (sI M 21 v8 r4) 23 r4 ((gI (sI M 21 v8 r4) 23 r4) + (1 : Int32)))) else (Option.bind (M_leastFrom (sI (sI M 21 v8 r4) 23 r4 ((gI (sI M 21 v8 r4) 23 r4) + (1 : Int32))) (v8 + (1 : Int32)) v2) (fun r14 => if v4 ≤ ((v6 + r11) + r14) then (M_findBest_c283 rec63 v1 v2 v4 (v6 + r11) v8 (0 : Int32) (sI (sI M 21 v8 r4) 23 r4 ((gI (sI M 21 v8 r4) 23 r4) + (1 : Int32)))) else (M_findBest_c283 rec63 v1 v2 v4 (v6 + r11) v8 (1 : Int32) (sI (sI M 21 v8 r4) 23 r4 ((gI (sI M 21 v8 r4) 23 r4) + (1 : Int32)))))))))))))))
def M_findBest_b84 (rec63 : Int32 → Int64 → Int64 → Int64 → Int32 → Me → Option (Int64 × Me)) (rec84 : Int32 → Int64 → Int64 → Int64 → Int32 → Int32 → Me → Option (Int64 × Me)) (v1 : Int32) (v2 : Int64) (v4 : Int64) (v6 : Int64) (v8 : Int32) (v9 : Int32) (M : Me) : Option (Int64 × Me) :=
  if (gF M 7) ≤ v9 then (rec63 v1 v2 v4 v6 (v8 + (-1 : Int32)) M) else (gd (inb v9 5) (gd (inb v9 5) (rec84 v1 v2 v4 v6 v8 (v9 + (1 : Int32)) (sI M 22 v9 (gI M 21 v9)))))
def M_findBest_L84 (rec63 : Int32 → Int64 → Int64 → Int64 → Int32 → Me → Option (Int64 × Me)) : Nat → Int32 → Int64 → Int64 → Int64 → Int32 → Int32 → Me → Option (Int64 × Me)
  | 0, _, _, _, _, _, _, _ => none
  | F + 1, v1, v2, v4, v6, v8, v9, M => M_findBest_b84 rec63 (M_findBest_L84 rec63 F) v1 v2 v4 v6 v8 v9 M
def M_findBest_b63 (rec63 : Int32 → Int64 → Int64 → Int64 → Int32 → Me → Option (Int64 × Me)) (v1 : Int32) (v2 : Int64) (v4 : Int64) (v6 : Int64) (v8 : Int32) (M : Me) : Option (Int64 × Me) :=
  if v8 < (0 : Int32) then (some (v4, M)) else (if v8 = (gF M 7) then (M_findBest_L84 rec63 64 v1 v2 v6 v6 v8 (0 : Int32) M) else (gd (inb v8 5) (if (gI M 21 v8) < (0 : Int32) then (M_findBest_c168 rec63 v1 v2 v4 v6 v8 M) else (gd (inb v8 5) (gd (inb (gI M 21 v8) 24) (gd (inb (gI M 21 v8) 24) (gd (inb v8 5) (gd (inb v8 5) (Option.bind (M_kinOf (sI M 23 (gI M 21 v8) ((gI M 23 (gI M 21 v8)) - (1 : Int32))) (gI (sI M 23 (gI M 21 v8) ((gI M 23 (gI M 21 v8)) - (1 : Int32))) 20 v8) (gI (sI M 23 (gI M 21 v8) ((gI M 23 (gI M 21 v8)) - (1 : Int32))) 21 v8)) (fun r11 => M_findBest_c168 rec63 v1 v2 v4 (v6 - r11) v8 (sI M 23 (gI M 21 v8) ((gI M 23 (gI M 21 v8)) - (1 : Int32)))))))))))))
def M_findBest_L63 : Nat → Int32 → Int64 → Int64 → Int64 → Int32 → Me → Option (Int64 × Me)
  | 0, _, _, _, _, _, _ => none
  | F + 1, v1, v2, v4, v6, v8, M => M_findBest_b63 (M_findBest_L63 F) v1 v2 v4 v6 v8 M
def M_findBest_b40 (rec40 : Int32 → Int64 → Int64 → Int64 → Int32 → Int32 → Me → Option (Int64 × Me)) (v1 : Int32) (v2 : Int64) (v4 : Int64) (v6 : Int64) (v8 : Int32) (v9 : Int32) (M : Me) : Option (Int64 × Me) :=
  if (gF M 7) ≤ v9 then (M_findBest_L63 1000000000 v1 v2 v4 v6 v8 M) else (gd (inb v9 5) (rec40 v1 v2 v4 v6 v8 (v9 + (1 : Int32)) (sI M 21 v9 (-1 : Int32))))
def M_findBest_L40 : Nat → Int32 → Int64 → Int64 → Int64 → Int32 → Int32 → Me → Option (Int64 × Me)
  | 0, _, _, _, _, _, _, _ => none
  | F + 1, v1, v2, v4, v6, v8, v9, M => M_findBest_b40 (M_findBest_L40 F) v1 v2 v4 v6 v8 v9 M
def M_findBest_b14 (rec14 : Int32 → Int64 → Int64 → Int64 → Int32 → Int32 → Me → Option (Int64 × Me)) (v1 : Int32) (v2 : Int64) (v4 : Int64) (v6 : Int64) (v8 : Int32) (v9 : Int32) (M : Me) : Option (Int64 × Me) :=
  if (gF M 5) ≤ v9 then (M_findBest_L40 64 v1 v2 v4 v6 v8 (0 : Int32) M) else (gd (inb v9 24) (rec14 v1 v2 v4 v6 v8 (v9 + (1 : Int32)) (sI M 23 v9 (0 : Int32))))
def M_findBest_L14 : Nat → Int32 → Int64 → Int64 → Int64 → Int32 → Int32 → Me → Option (Int64 × Me)
  | 0, _, _, _, _, _, _, _ => none
  | F + 1, v1, v2, v4, v6, v8, v9, M => M_findBest_b14 (M_findBest_L14 F) v1 v2 v4 v6 v8 v9 M
def M_findBest (M : Me) (v1 : Int32) (v2 : Int64) : Option (Int64 × Me) :=
  M_findBest_L14 64 v1 v2 (-1 : Int64) (0 : Int64) (0 : Int32) (0 : Int32) M
def rm_M_findBest : Room := { frames := 2, locals := 51, cells := 0, slots := 0 }
theorem q_M_findBest_c283 {l : Launch} {D : va_G} {B : Nat} {ad : Nat → Nat} {r : Int64 × Me} (rec63 : Int32 → Int64 → Int64 → Int64 → Int32 → Me → Option (Int64 × Me)) (hrec63 : ∀ (v1 : Int32) (v2 : Int64) (v4 : Int64) (v6 : Int64) (v8 : Int32) (M : Me) , rec63 v1 v2 v4 v6 v8 M = some r → ab_V (ab_km l D B ad y_M_findBest rm_M_findBest (.ok (some (.long r.1))) (lay r.2)) ad 63 [(0, .ref 3), (1, .int v1), (2, .long v2), (4, .long v4), (6, .long v6), (8, .int v8)] [] (lay M) 0 0) (v1 : Int32) (v2 : Int64) (v4 : Int64) (v6 : Int64) (v8 : Int32) (s0 : Int32) (M : Me) (hyp : M_findBest_c283 rec63 v1 v2 v4 v6 v8 s0 M = some r) : ab_V (ab_km l D B ad y_M_findBest rm_M_findBest (.ok (some (.long r.1))) (lay r.2)) ad 283 [(0, .ref 3), (1, .int v1), (2, .long v2), (4, .long v4), (6, .long v6), (8, .int v8)] [.int s0] (lay M) 0 0 := by
  unfold M_findBest_c283 at hyp
  refine ab_istore 285 [(10, _), (0, _), (1, _), (2, _), (4, _), (6, _), (8, _)] d_M_findBest_283 rfl ?_
  refine ab_iload 287 d_M_findBest_285 rfl ?_
  refine ab_if_eq 297 290 d_M_findBest_287 (fun z1 => ?_) (fun z1 => ?_)
  · replace hyp := ab_pos z1 hyp
    refine ab_iload 299 d_M_findBest_297 rfl ?_
    refine ab_istore 301 [(8, _), (10, _), (0, _), (1, _), (2, _), (4, _), (6, _)] d_M_findBest_299 rfl ?_
    refine ab_goto 63 d_M_findBest_301 ?_
    refine ab_pick [2, 3, 4, 5, 6, 0] [(0, _), (1, _), (2, _), (4, _), (6, _), (8, _)] rfl ?_
    exact hrec63 v1 v2 v4 v6 v8 M hyp
  · replace hyp := ab_neg z1 hyp
    refine ab_iload 292 d_M_findBest_290 rfl ?_
    refine ab_iconst 293 d_M_findBest_292 (1 : Int32) (by decide) ?_
    refine ab_iadd 294 d_M_findBest_293 ?_
    refine ab_goto 299 d_M_findBest_294 ?_
    refine ab_istore 301 [(8, _), (10, _), (0, _), (1, _), (2, _), (4, _), (6, _)] d_M_findBest_299 rfl ?_
    refine ab_goto 63 d_M_findBest_301 ?_
    refine ab_pick [2, 3, 4, 5, 6, 0] [(0, _), (1, _), (2, _), (4, _), (6, _), (8, _)] rfl ?_
    exact hrec63 v1 v2 v4 v6 (v8 + (1 : Int32)) M hyp
theorem q_M_findBest_c168 {l : Launch} {D : va_G} {B : Nat} {ad : Nat → Nat} {r : Int64 × Me} (rec63 : Int32 → Int64 → Int64 → Int64 → Int32 → Me → Option (Int64 × Me)) (hrec63 : ∀ (v1 : Int32) (v2 : Int64) (v4 : Int64) (v6 : Int64) (v8 : Int32) (M : Me) , rec63 v1 v2 v4 v6 v8 M = some r → ab_V (ab_km l D B ad y_M_findBest rm_M_findBest (.ok (some (.long r.1))) (lay r.2)) ad 63 [(0, .ref 3), (1, .int v1), (2, .long v2), (4, .long v4), (6, .long v6), (8, .int v8)] [] (lay M) 0 0) (v1 : Int32) (v2 : Int64) (v4 : Int64) (v6 : Int64) (v8 : Int32) (M : Me) (hyp : M_findBest_c168 rec63 v1 v2 v4 v6 v8 M = some r) : ab_V (ab_km l D B ad y_M_findBest rm_M_findBest (.ok (some (.long r.1))) (lay r.2)) ad 168 [(0, .ref 3), (1, .int v1), (2, .long v2), (4, .long v4), (6, .long v6), (8, .int v8)] [] (lay M) 0 0 := by
  unfold M_findBest_c168 at hyp
  refine ab_aload_n 169 d_M_findBest_168 rfl ?_
  refine ab_aload_n 170 d_M_findBest_169 rfl ?_
  refine ab_get 173 d_M_findBest_170 fd_38 rfl rfl ?_
  refine ab_iload 175 d_M_findBest_173 rfl ?_
  obtain ⟨g1, hyp⟩ := ab_gd hyp
  refine ab_ild 20 5 176 d_M_findBest_175 rfl g1 ?_
  refine ab_aload_n 177 d_M_findBest_176 rfl ?_
  refine ab_get 180 d_M_findBest_177 fd_39 rfl rfl ?_
  refine ab_iload 182 d_M_findBest_180 rfl ?_
  obtain ⟨g2, hyp⟩ := ab_gd hyp
  refine ab_ild 21 5 183 d_M_findBest_182 rfl g2 ?_
  refine ab_iconst 184 d_M_findBest_183 (1 : Int32) (by decide) ?_
  refine ab_iadd 185 d_M_findBest_184 ?_
  refine ab_iload_n 186 d_M_findBest_185 rfl ?_
  refine ab_lload_n 187 d_M_findBest_186 rfl ?_
  obtain ⟨r4, hc3, hyp⟩ := ab_bind hyp
  refine ab_callV (h' := lay M) 190 0 0 [] [.int r4] d_M_findBest_187 ok_M_nextBull lk_63 (c_M_nextBull hc3) rfl rfl ?_
  refine ab_istore 192 [(9, _), (0, _), (1, _), (2, _), (4, _), (6, _), (8, _)] d_M_findBest_190 rfl ?_
  refine ab_iload 194 d_M_findBest_192 rfl ?_
  refine ab_aload_n 195 d_M_findBest_194 rfl ?_
  refine ab_get 198 d_M_findBest_195 fd_25 rfl rfl ?_
  refine ab_ic_ne 215 201 d_M_findBest_198 (fun z5 => ?_) (fun z5 => ?_)
  · replace hyp := ab_neg z5 hyp
    refine ab_aload_n 216 d_M_findBest_215 rfl ?_
    refine ab_get 219 d_M_findBest_216 fd_39 rfl rfl ?_
    refine ab_iload 221 d_M_findBest_219 rfl ?_
    refine ab_iload 223 d_M_findBest_221 rfl ?_
    obtain ⟨g6, hyp⟩ := ab_gd hyp
    refine ab_ist 21 5 224 d_M_findBest_223 rfl g6 lay_I21 ?_
    refine ab_aload_n 225 d_M_findBest_224 rfl ?_
    refine ab_get 228 d_M_findBest_225 fd_36 rfl rfl ?_
    refine ab_iload 230 d_M_findBest_228 rfl ?_
    refine ab_dup2ir 231 d_M_findBest_230 ?_
    obtain ⟨g7, hyp⟩ := ab_gd hyp
    refine ab_ild 23 24 232 d_M_findBest_231 rfl g7 ?_
    refine ab_iconst 233 d_M_findBest_232 (1 : Int32) (by decide) ?_
    refine ab_iadd 234 d_M_findBest_233 ?_
    obtain ⟨g8, hyp⟩ := ab_gd hyp
    refine ab_ist 23 24 235 d_M_findBest_234 rfl g8 lay_I23 ?_
    refine ab_lload 237 d_M_findBest_235 rfl ?_
    refine ab_aload_n 238 d_M_findBest_237 rfl ?_
    refine ab_aload_n 239 d_M_findBest_238 rfl ?_
    refine ab_get 242 d_M_findBest_239 fd_38 rfl rfl ?_
    refine ab_iload 244 d_M_findBest_242 rfl ?_
    obtain ⟨g9, hyp⟩ := ab_gd hyp
    refine ab_ild 20 5 245 d_M_findBest_244 rfl g9 ?_
    refine ab_iload 247 d_M_findBest_245 rfl ?_
    obtain ⟨r11, hc10, hyp⟩ := ab_bind hyp
    refine ab_callV (h' := lay (sI (sI M 21 v8 r4) 23 r4 ((gI (sI M 21 v8 r4) 23 r4) + (1 : Int32)))) 250 0 0 [.long v6] [.long r11, .long v6] d_M_findBest_247 ok_M_kinOf lk_52 (c_M_kinOf hc10) rfl rfl ?_
    refine ab_ladd 251 d_M_findBest_250 ?_
    refine ab_lstore 253 [(6, _), (9, _), (0, _), (1, _), (2, _), (4, _), (8, _)] d_M_findBest_251 rfl ?_
    refine ab_lload 255 d_M_findBest_253 rfl ?_
    refine ab_lconst 256 d_M_findBest_255 (0 : Int64) (by decide) ?_
    refine ab_lc_lt 278 257 260 d_M_findBest_256 d_M_findBest_257 (fun z12 => ?_) (fun z12 => ?_)
    · replace hyp := ab_pos z12 hyp
      refine ab_iconst 279 d_M_findBest_278 (1 : Int32) (by decide) ?_
      refine ab_goto 283 d_M_findBest_279 ?_
      refine ab_pick [2, 3, 4, 5, 0, 6] [(0, _), (1, _), (2, _), (4, _), (6, _), (8, _)] rfl ?_
      exact q_M_findBest_c283 rec63 hrec63 v1 v2 v4 (v6 + r11) v8 (1 : Int32) (sI (sI M 21 v8 r4) 23 r4 ((gI (sI M 21 v8 r4) 23 r4) + (1 : Int32))) hyp
    · replace hyp := ab_neg z12 hyp
      refine ab_lload 262 d_M_findBest_260 rfl ?_
      refine ab_aload_n 263 d_M_findBest_262 rfl ?_
      refine ab_iload 265 d_M_findBest_263 rfl ?_
      refine ab_iconst 266 d_M_findBest_265 (1 : Int32) (by decide) ?_
      refine ab_iadd 267 d_M_findBest_266 ?_
      refine ab_lload_n 268 d_M_findBest_267 rfl ?_
      obtain ⟨r14, hc13, hyp⟩ := ab_bind hyp
      refine ab_callV (h' := lay (sI (sI M 21 v8 r4) 23 r4 ((gI (sI M 21 v8 r4) 23 r4) + (1 : Int32)))) 271 0 0 [.long ((v6 + r11))] [.long r14, .long ((v6 + r11))] d_M_findBest_268 ok_M_leastFrom lk_64 (c_M_leastFrom hc13) rfl rfl ?_
      refine ab_ladd 272 d_M_findBest_271 ?_
      refine ab_lload 274 d_M_findBest_272 rfl ?_
      refine ab_lc_ge 282 275 278 d_M_findBest_274 d_M_findBest_275 (fun z15 => ?_) (fun z15 => ?_)
      · replace hyp := ab_pos z15 hyp
        refine ab_iconst 283 d_M_findBest_282 (0 : Int32) (by decide) ?_
        refine ab_pick [2, 3, 4, 5, 0, 6] [(0, _), (1, _), (2, _), (4, _), (6, _), (8, _)] rfl ?_
        exact q_M_findBest_c283 rec63 hrec63 v1 v2 v4 (v6 + r11) v8 (0 : Int32) (sI (sI M 21 v8 r4) 23 r4 ((gI (sI M 21 v8 r4) 23 r4) + (1 : Int32))) hyp
      · replace hyp := ab_neg z15 hyp
        refine ab_iconst 279 d_M_findBest_278 (1 : Int32) (by decide) ?_
        refine ab_goto 283 d_M_findBest_279 ?_
        refine ab_pick [2, 3, 4, 5, 0, 6] [(0, _), (1, _), (2, _), (4, _), (6, _), (8, _)] rfl ?_
        exact q_M_findBest_c283 rec63 hrec63 v1 v2 v4 (v6 + r11) v8 (1 : Int32) (sI (sI M 21 v8 r4) 23 r4 ((gI (sI M 21 v8 r4) 23 r4) + (1 : Int32))) hyp
  · replace hyp := ab_pos z5 hyp
    refine ab_aload_n 202 d_M_findBest_201 rfl ?_
    refine ab_get 205 d_M_findBest_202 fd_39 rfl rfl ?_
    refine ab_iload 207 d_M_findBest_205 rfl ?_
    refine ab_iconst 208 d_M_findBest_207 (-1 : Int32) (by decide) ?_
    obtain ⟨g16, hyp⟩ := ab_gd hyp
    refine ab_ist 21 5 209 d_M_findBest_208 rfl g16 lay_I21 ?_
    refine ab_iinc 212 [(8, _), (9, _), (0, _), (1, _), (2, _), (4, _), (6, _)] d_M_findBest_209 (-1 : Int32) (by decide) rfl rfl ?_
    refine ab_goto 301 d_M_findBest_212 ?_
    refine ab_goto 63 d_M_findBest_301 ?_
    refine ab_pick [2, 3, 4, 5, 6, 0] [(0, _), (1, _), (2, _), (4, _), (6, _), (8, _)] rfl ?_
    exact hrec63 v1 v2 v4 v6 (v8 + (-1 : Int32)) (sI M 21 v8 (-1 : Int32)) hyp
theorem q_M_findBest_b84 {l : Launch} {D : va_G} {B : Nat} {ad : Nat → Nat} {r : Int64 × Me} (rec63 : Int32 → Int64 → Int64 → Int64 → Int32 → Me → Option (Int64 × Me)) (hrec63 : ∀ (v1 : Int32) (v2 : Int64) (v4 : Int64) (v6 : Int64) (v8 : Int32) (M : Me) , rec63 v1 v2 v4 v6 v8 M = some r → ab_V (ab_km l D B ad y_M_findBest rm_M_findBest (.ok (some (.long r.1))) (lay r.2)) ad 63 [(0, .ref 3), (1, .int v1), (2, .long v2), (4, .long v4), (6, .long v6), (8, .int v8)] [] (lay M) 0 0) (rec84 : Int32 → Int64 → Int64 → Int64 → Int32 → Int32 → Me → Option (Int64 × Me)) (hrec84 : ∀ (v1 : Int32) (v2 : Int64) (v4 : Int64) (v6 : Int64) (v8 : Int32) (v9 : Int32) (M : Me) , rec84 v1 v2 v4 v6 v8 v9 M = some r → ab_V (ab_km l D B ad y_M_findBest rm_M_findBest (.ok (some (.long r.1))) (lay r.2)) ad 84 [(0, .ref 3), (1, .int v1), (2, .long v2), (4, .long v4), (6, .long v6), (8, .int v8), (9, .int v9)] [] (lay M) 0 0) (v1 : Int32) (v2 : Int64) (v4 : Int64) (v6 : Int64) (v8 : Int32) (v9 : Int32) (M : Me) (hyp : M_findBest_b84 rec63 rec84 v1 v2 v4 v6 v8 v9 M = some r) : ab_V (ab_km l D B ad y_M_findBest rm_M_findBest (.ok (some (.long r.1))) (lay r.2)) ad 84 [(0, .ref 3), (1, .int v1), (2, .long v2), (4, .long v4), (6, .long v6), (8, .int v8), (9, .int v9)] [] (lay M) 0 0 := by
  unfold M_findBest_b84 at hyp
  refine ab_iload 86 d_M_findBest_84 rfl ?_
  refine ab_aload_n 87 d_M_findBest_86 rfl ?_
  refine ab_get 90 d_M_findBest_87 fd_37 rfl rfl ?_
  refine ab_ic_ge 113 93 d_M_findBest_90 (fun z1 => ?_) (fun z1 => ?_)
  · replace hyp := ab_pos z1 hyp
    refine ab_iinc 116 [(8, _), (0, _), (1, _), (2, _), (4, _), (6, _), (9, _)] d_M_findBest_113 (-1 : Int32) (by decide) rfl rfl ?_
    refine ab_goto 63 d_M_findBest_116 ?_
    refine ab_pick [1, 2, 3, 4, 5, 0] [(0, _), (1, _), (2, _), (4, _), (6, _), (8, _)] rfl ?_
    exact hrec63 v1 v2 v4 v6 (v8 + (-1 : Int32)) M hyp
  · replace hyp := ab_neg z1 hyp
    refine ab_aload_n 94 d_M_findBest_93 rfl ?_
    refine ab_get 97 d_M_findBest_94 fd_40 rfl rfl ?_
    refine ab_iload 99 d_M_findBest_97 rfl ?_
    refine ab_aload_n 100 d_M_findBest_99 rfl ?_
    refine ab_get 103 d_M_findBest_100 fd_39 rfl rfl ?_
    refine ab_iload 105 d_M_findBest_103 rfl ?_
    obtain ⟨g2, hyp⟩ := ab_gd hyp
    refine ab_ild 21 5 106 d_M_findBest_105 rfl g2 ?_
    obtain ⟨g3, hyp⟩ := ab_gd hyp
    refine ab_ist 22 5 107 d_M_findBest_106 rfl g3 lay_I22 ?_
    refine ab_iinc 110 [(9, _), (0, _), (1, _), (2, _), (4, _), (6, _), (8, _)] d_M_findBest_107 (1 : Int32) (by decide) rfl rfl ?_
    refine ab_goto 84 d_M_findBest_110 ?_
    refine ab_pick [1, 2, 3, 4, 5, 6, 0] [(0, _), (1, _), (2, _), (4, _), (6, _), (8, _), (9, _)] rfl ?_
    exact hrec84 v1 v2 v4 v6 v8 (v9 + (1 : Int32)) (sI M 22 v9 (gI M 21 v9)) hyp
theorem q_M_findBest_L84 {l : Launch} {D : va_G} {B : Nat} {ad : Nat → Nat} {r : Int64 × Me} (rec63 : Int32 → Int64 → Int64 → Int64 → Int32 → Me → Option (Int64 × Me)) (hrec63 : ∀ (v1 : Int32) (v2 : Int64) (v4 : Int64) (v6 : Int64) (v8 : Int32) (M : Me) , rec63 v1 v2 v4 v6 v8 M = some r → ab_V (ab_km l D B ad y_M_findBest rm_M_findBest (.ok (some (.long r.1))) (lay r.2)) ad 63 [(0, .ref 3), (1, .int v1), (2, .long v2), (4, .long v4), (6, .long v6), (8, .int v8)] [] (lay M) 0 0) : ∀ (F : Nat) (v1 : Int32) (v2 : Int64) (v4 : Int64) (v6 : Int64) (v8 : Int32) (v9 : Int32) (M : Me) , M_findBest_L84 rec63 F v1 v2 v4 v6 v8 v9 M = some r → ab_V (ab_km l D B ad y_M_findBest rm_M_findBest (.ok (some (.long r.1))) (lay r.2)) ad 84 [(0, .ref 3), (1, .int v1), (2, .long v2), (4, .long v4), (6, .long v6), (8, .int v8), (9, .int v9)] [] (lay M) 0 0 := by
  intro F
  induction F with
  | zero =>
    intro v1 v2 v4 v6 v8 v9 M hyp
    have h2 : (none : Option (Int64 × Me)) = some r := hyp
    cases h2
  | succ F ih =>
    intro v1 v2 v4 v6 v8 v9 M hyp
    exact q_M_findBest_b84 rec63 hrec63 (M_findBest_L84 rec63 F) ih v1 v2 v4 v6 v8 v9 M hyp
theorem q_M_findBest_b63 {l : Launch} {D : va_G} {B : Nat} {ad : Nat → Nat} {r : Int64 × Me} (rec63 : Int32 → Int64 → Int64 → Int64 → Int32 → Me → Option (Int64 × Me)) (hrec63 : ∀ (v1 : Int32) (v2 : Int64) (v4 : Int64) (v6 : Int64) (v8 : Int32) (M : Me) , rec63 v1 v2 v4 v6 v8 M = some r → ab_V (ab_km l D B ad y_M_findBest rm_M_findBest (.ok (some (.long r.1))) (lay r.2)) ad 63 [(0, .ref 3), (1, .int v1), (2, .long v2), (4, .long v4), (6, .long v6), (8, .int v8)] [] (lay M) 0 0) (v1 : Int32) (v2 : Int64) (v4 : Int64) (v6 : Int64) (v8 : Int32) (M : Me) (hyp : M_findBest_b63 rec63 v1 v2 v4 v6 v8 M = some r) : ab_V (ab_km l D B ad y_M_findBest rm_M_findBest (.ok (some (.long r.1))) (lay r.2)) ad 63 [(0, .ref 3), (1, .int v1), (2, .long v2), (4, .long v4), (6, .long v6), (8, .int v8)] [] (lay M) 0 0 := by
  unfold M_findBest_b63 at hyp
  refine ab_iload 65 d_M_findBest_63 rfl ?_
  refine ab_if_lt 304 68 d_M_findBest_65 (fun z1 => ?_) (fun z1 => ?_)
  · replace hyp := ab_pos z1 hyp
    refine ab_lload 306 d_M_findBest_304 rfl ?_
    cases hyp
    exact ab_lreturn d_M_findBest_306 rfl rfl rfl (Nat.le_of_ble_eq_true rfl) (Nat.le_of_ble_eq_true rfl)
  · replace hyp := ab_neg z1 hyp
    refine ab_iload 70 d_M_findBest_68 rfl ?_
    refine ab_aload_n 71 d_M_findBest_70 rfl ?_
    refine ab_get 74 d_M_findBest_71 fd_37 rfl rfl ?_
    refine ab_ic_ne 119 77 d_M_findBest_74 (fun z2 => ?_) (fun z2 => ?_)
    · replace hyp := ab_neg z2 hyp
      refine ab_aload_n 120 d_M_findBest_119 rfl ?_
      refine ab_get 123 d_M_findBest_120 fd_39 rfl rfl ?_
      refine ab_iload 125 d_M_findBest_123 rfl ?_
      obtain ⟨g3, hyp⟩ := ab_gd hyp
      refine ab_ild 21 5 126 d_M_findBest_125 rfl g3 ?_
      refine ab_if_lt 168 129 d_M_findBest_126 (fun z4 => ?_) (fun z4 => ?_)
      · replace hyp := ab_pos z4 hyp
        refine ab_pick [0, 1, 2, 3, 4, 5] [(0, _), (1, _), (2, _), (4, _), (6, _), (8, _)] rfl ?_
        exact q_M_findBest_c168 rec63 hrec63 v1 v2 v4 v6 v8 M hyp
      · replace hyp := ab_neg z4 hyp
        refine ab_aload_n 130 d_M_findBest_129 rfl ?_
        refine ab_get 133 d_M_findBest_130 fd_36 rfl rfl ?_
        refine ab_aload_n 134 d_M_findBest_133 rfl ?_
        refine ab_get 137 d_M_findBest_134 fd_39 rfl rfl ?_
        refine ab_iload 139 d_M_findBest_137 rfl ?_
        obtain ⟨g5, hyp⟩ := ab_gd hyp
        refine ab_ild 21 5 140 d_M_findBest_139 rfl g5 ?_
        refine ab_dup2ir 141 d_M_findBest_140 ?_
        obtain ⟨g6, hyp⟩ := ab_gd hyp
        refine ab_ild 23 24 142 d_M_findBest_141 rfl g6 ?_
        refine ab_iconst 143 d_M_findBest_142 (1 : Int32) (by decide) ?_
        refine ab_isub 144 d_M_findBest_143 ?_
        obtain ⟨g7, hyp⟩ := ab_gd hyp
        refine ab_ist 23 24 145 d_M_findBest_144 rfl g7 lay_I23 ?_
        refine ab_lload 147 d_M_findBest_145 rfl ?_
        refine ab_aload_n 148 d_M_findBest_147 rfl ?_
        refine ab_aload_n 149 d_M_findBest_148 rfl ?_
        refine ab_get 152 d_M_findBest_149 fd_38 rfl rfl ?_
        refine ab_iload 154 d_M_findBest_152 rfl ?_
        obtain ⟨g8, hyp⟩ := ab_gd hyp
        refine ab_ild 20 5 155 d_M_findBest_154 rfl g8 ?_
        refine ab_aload_n 156 d_M_findBest_155 rfl ?_
        refine ab_get 159 d_M_findBest_156 fd_39 rfl rfl ?_
        refine ab_iload 161 d_M_findBest_159 rfl ?_
        obtain ⟨g9, hyp⟩ := ab_gd hyp
        refine ab_ild 21 5 162 d_M_findBest_161 rfl g9 ?_
        obtain ⟨r11, hc10, hyp⟩ := ab_bind hyp
        refine ab_callV (h' := lay (sI M 23 (gI M 21 v8) ((gI M 23 (gI M 21 v8)) - (1 : Int32)))) 165 0 0 [.long v6] [.long r11, .long v6] d_M_findBest_162 ok_M_kinOf lk_52 (c_M_kinOf hc10) rfl rfl ?_
        refine ab_lsub 166 d_M_findBest_165 ?_
        refine ab_lstore 168 [(6, _), (0, _), (1, _), (2, _), (4, _), (8, _)] d_M_findBest_166 rfl ?_
        refine ab_pick [1, 2, 3, 4, 0, 5] [(0, _), (1, _), (2, _), (4, _), (6, _), (8, _)] rfl ?_
        exact q_M_findBest_c168 rec63 hrec63 v1 v2 v4 (v6 - r11) v8 (sI M 23 (gI M 21 v8) ((gI M 23 (gI M 21 v8)) - (1 : Int32))) hyp
    · replace hyp := ab_pos z2 hyp
      refine ab_lload 79 d_M_findBest_77 rfl ?_
      refine ab_lstore 81 [(4, _), (0, _), (1, _), (2, _), (6, _), (8, _)] d_M_findBest_79 rfl ?_
      refine ab_iconst 82 d_M_findBest_81 (0 : Int32) (by decide) ?_
      refine ab_istore 84 [(9, _), (4, _), (0, _), (1, _), (2, _), (6, _), (8, _)] d_M_findBest_82 rfl ?_
      refine ab_pick [2, 3, 4, 1, 5, 6, 0] [(0, _), (1, _), (2, _), (4, _), (6, _), (8, _), (9, _)] rfl ?_
      exact q_M_findBest_L84 rec63 hrec63 64 v1 v2 v6 v6 v8 (0 : Int32) M hyp
theorem q_M_findBest_L63 {l : Launch} {D : va_G} {B : Nat} {ad : Nat → Nat} {r : Int64 × Me} : ∀ (F : Nat) (v1 : Int32) (v2 : Int64) (v4 : Int64) (v6 : Int64) (v8 : Int32) (M : Me) , M_findBest_L63 F v1 v2 v4 v6 v8 M = some r → ab_V (ab_km l D B ad y_M_findBest rm_M_findBest (.ok (some (.long r.1))) (lay r.2)) ad 63 [(0, .ref 3), (1, .int v1), (2, .long v2), (4, .long v4), (6, .long v6), (8, .int v8)] [] (lay M) 0 0 := by
  intro F
  induction F with
  | zero =>
    intro v1 v2 v4 v6 v8 M hyp
    have h2 : (none : Option (Int64 × Me)) = some r := hyp
    cases h2
  | succ F ih =>
    intro v1 v2 v4 v6 v8 M hyp
    exact q_M_findBest_b63 (M_findBest_L63 F) ih v1 v2 v4 v6 v8 M hyp
theorem q_M_findBest_b40 {l : Launch} {D : va_G} {B : Nat} {ad : Nat → Nat} {r : Int64 × Me} (rec40 : Int32 → Int64 → Int64 → Int64 → Int32 → Int32 → Me → Option (Int64 × Me)) (hrec40 : ∀ (v1 : Int32) (v2 : Int64) (v4 : Int64) (v6 : Int64) (v8 : Int32) (v9 : Int32) (M : Me) , rec40 v1 v2 v4 v6 v8 v9 M = some r → ab_V (ab_km l D B ad y_M_findBest rm_M_findBest (.ok (some (.long r.1))) (lay r.2)) ad 40 [(0, .ref 3), (1, .int v1), (2, .long v2), (4, .long v4), (6, .long v6), (8, .int v8), (9, .int v9)] [] (lay M) 0 0) (v1 : Int32) (v2 : Int64) (v4 : Int64) (v6 : Int64) (v8 : Int32) (v9 : Int32) (M : Me) (hyp : M_findBest_b40 rec40 v1 v2 v4 v6 v8 v9 M = some r) : ab_V (ab_km l D B ad y_M_findBest rm_M_findBest (.ok (some (.long r.1))) (lay r.2)) ad 40 [(0, .ref 3), (1, .int v1), (2, .long v2), (4, .long v4), (6, .long v6), (8, .int v8), (9, .int v9)] [] (lay M) 0 0 := by
  unfold M_findBest_b40 at hyp
  refine ab_iload 42 d_M_findBest_40 rfl ?_
  refine ab_aload_n 43 d_M_findBest_42 rfl ?_
  refine ab_get 46 d_M_findBest_43 fd_37 rfl rfl ?_
  refine ab_ic_ge 63 49 d_M_findBest_46 (fun z1 => ?_) (fun z1 => ?_)
  · replace hyp := ab_pos z1 hyp
    refine ab_pick [0, 1, 2, 3, 4, 5] [(0, _), (1, _), (2, _), (4, _), (6, _), (8, _)] rfl ?_
    exact q_M_findBest_L63 1000000000 v1 v2 v4 v6 v8 M hyp
  · replace hyp := ab_neg z1 hyp
    refine ab_aload_n 50 d_M_findBest_49 rfl ?_
    refine ab_get 53 d_M_findBest_50 fd_39 rfl rfl ?_
    refine ab_iload 55 d_M_findBest_53 rfl ?_
    refine ab_iconst 56 d_M_findBest_55 (-1 : Int32) (by decide) ?_
    obtain ⟨g2, hyp⟩ := ab_gd hyp
    refine ab_ist 21 5 57 d_M_findBest_56 rfl g2 lay_I21 ?_
    refine ab_iinc 60 [(9, _), (0, _), (1, _), (2, _), (4, _), (6, _), (8, _)] d_M_findBest_57 (1 : Int32) (by decide) rfl rfl ?_
    refine ab_goto 40 d_M_findBest_60 ?_
    refine ab_pick [1, 2, 3, 4, 5, 6, 0] [(0, _), (1, _), (2, _), (4, _), (6, _), (8, _), (9, _)] rfl ?_
    exact hrec40 v1 v2 v4 v6 v8 (v9 + (1 : Int32)) (sI M 21 v9 (-1 : Int32)) hyp
theorem q_M_findBest_L40 {l : Launch} {D : va_G} {B : Nat} {ad : Nat → Nat} {r : Int64 × Me} : ∀ (F : Nat) (v1 : Int32) (v2 : Int64) (v4 : Int64) (v6 : Int64) (v8 : Int32) (v9 : Int32) (M : Me) , M_findBest_L40 F v1 v2 v4 v6 v8 v9 M = some r → ab_V (ab_km l D B ad y_M_findBest rm_M_findBest (.ok (some (.long r.1))) (lay r.2)) ad 40 [(0, .ref 3), (1, .int v1), (2, .long v2), (4, .long v4), (6, .long v6), (8, .int v8), (9, .int v9)] [] (lay M) 0 0 := by
  intro F
  induction F with
  | zero =>
    intro v1 v2 v4 v6 v8 v9 M hyp
    have h2 : (none : Option (Int64 × Me)) = some r := hyp
    cases h2
  | succ F ih =>
    intro v1 v2 v4 v6 v8 v9 M hyp
    exact q_M_findBest_b40 (M_findBest_L40 F) ih v1 v2 v4 v6 v8 v9 M hyp
theorem q_M_findBest_b14 {l : Launch} {D : va_G} {B : Nat} {ad : Nat → Nat} {r : Int64 × Me} (rec14 : Int32 → Int64 → Int64 → Int64 → Int32 → Int32 → Me → Option (Int64 × Me)) (hrec14 : ∀ (v1 : Int32) (v2 : Int64) (v4 : Int64) (v6 : Int64) (v8 : Int32) (v9 : Int32) (M : Me) , rec14 v1 v2 v4 v6 v8 v9 M = some r → ab_V (ab_km l D B ad y_M_findBest rm_M_findBest (.ok (some (.long r.1))) (lay r.2)) ad 14 [(0, .ref 3), (1, .int v1), (2, .long v2), (4, .long v4), (6, .long v6), (8, .int v8), (9, .int v9)] [] (lay M) 0 0) (v1 : Int32) (v2 : Int64) (v4 : Int64) (v6 : Int64) (v8 : Int32) (v9 : Int32) (M : Me) (hyp : M_findBest_b14 rec14 v1 v2 v4 v6 v8 v9 M = some r) : ab_V (ab_km l D B ad y_M_findBest rm_M_findBest (.ok (some (.long r.1))) (lay r.2)) ad 14 [(0, .ref 3), (1, .int v1), (2, .long v2), (4, .long v4), (6, .long v6), (8, .int v8), (9, .int v9)] [] (lay M) 0 0 := by
  unfold M_findBest_b14 at hyp
  refine ab_iload 16 d_M_findBest_14 rfl ?_
  refine ab_aload_n 17 d_M_findBest_16 rfl ?_
  refine ab_get 20 d_M_findBest_17 fd_25 rfl rfl ?_
  refine ab_ic_ge 37 23 d_M_findBest_20 (fun z1 => ?_) (fun z1 => ?_)
  · replace hyp := ab_pos z1 hyp
    refine ab_iconst 38 d_M_findBest_37 (0 : Int32) (by decide) ?_
    refine ab_istore 40 [(9, _), (0, _), (1, _), (2, _), (4, _), (6, _), (8, _)] d_M_findBest_38 rfl ?_
    refine ab_pick [1, 2, 3, 4, 5, 6, 0] [(0, _), (1, _), (2, _), (4, _), (6, _), (8, _), (9, _)] rfl ?_
    exact q_M_findBest_L40 64 v1 v2 v4 v6 v8 (0 : Int32) M hyp
  · replace hyp := ab_neg z1 hyp
    refine ab_aload_n 24 d_M_findBest_23 rfl ?_
    refine ab_get 27 d_M_findBest_24 fd_36 rfl rfl ?_
    refine ab_iload 29 d_M_findBest_27 rfl ?_
    refine ab_iconst 30 d_M_findBest_29 (0 : Int32) (by decide) ?_
    obtain ⟨g2, hyp⟩ := ab_gd hyp
    refine ab_ist 23 24 31 d_M_findBest_30 rfl g2 lay_I23 ?_
    refine ab_iinc 34 [(9, _), (0, _), (1, _), (2, _), (4, _), (6, _), (8, _)] d_M_findBest_31 (1 : Int32) (by decide) rfl rfl ?_
    refine ab_goto 14 d_M_findBest_34 ?_
    refine ab_pick [1, 2, 3, 4, 5, 6, 0] [(0, _), (1, _), (2, _), (4, _), (6, _), (8, _), (9, _)] rfl ?_
    exact hrec14 v1 v2 v4 v6 v8 (v9 + (1 : Int32)) (sI M 23 v9 (0 : Int32)) hyp
theorem q_M_findBest_L14 {l : Launch} {D : va_G} {B : Nat} {ad : Nat → Nat} {r : Int64 × Me} : ∀ (F : Nat) (v1 : Int32) (v2 : Int64) (v4 : Int64) (v6 : Int64) (v8 : Int32) (v9 : Int32) (M : Me) , M_findBest_L14 F v1 v2 v4 v6 v8 v9 M = some r → ab_V (ab_km l D B ad y_M_findBest rm_M_findBest (.ok (some (.long r.1))) (lay r.2)) ad 14 [(0, .ref 3), (1, .int v1), (2, .long v2), (4, .long v4), (6, .long v6), (8, .int v8), (9, .int v9)] [] (lay M) 0 0 := by
  intro F
  induction F with
  | zero =>
    intro v1 v2 v4 v6 v8 v9 M hyp
    have h2 : (none : Option (Int64 × Me)) = some r := hyp
    cases h2
  | succ F ih =>
    intro v1 v2 v4 v6 v8 v9 M hyp
    exact q_M_findBest_b14 (M_findBest_L14 F) ih v1 v2 v4 v6 v8 v9 M hyp
theorem c_M_findBest {M : Me} {v1 : Int32} {v2 : Int64} {r : Int64 × Me} (hyp : M_findBest M v1 v2 = some r) : ab_Met y_M_findBest rm_M_findBest [.ref 3, .int v1, .long v2] (lay M) (.ok (some (.long r.1))) (lay r.2) := by
  refine ab_start rfl rfl (Nat.le_of_ble_eq_true rfl) (fun l D B ad => ?_)
  show ab_V _ ad 0 [(0, .ref 3), (1, .int v1), (2, .long v2)] [] _ 0 0
  unfold M_findBest at hyp
  refine ab_ldc2 (v := (-1 : Int64)) 3 d_M_findBest_0 w_9 ?_
  refine ab_lstore 5 [(4, _), (0, _), (1, _), (2, _)] d_M_findBest_3 rfl ?_
  refine ab_lconst 6 d_M_findBest_5 (0 : Int64) (by decide) ?_
  refine ab_lstore 8 [(6, _), (4, _), (0, _), (1, _), (2, _)] d_M_findBest_6 rfl ?_
  refine ab_iconst 9 d_M_findBest_8 (0 : Int32) (by decide) ?_
  refine ab_istore 11 [(8, _), (6, _), (4, _), (0, _), (1, _), (2, _)] d_M_findBest_9 rfl ?_
  refine ab_iconst 12 d_M_findBest_11 (0 : Int32) (by decide) ?_
  refine ab_istore 14 [(9, _), (8, _), (6, _), (4, _), (0, _), (1, _), (2, _)] d_M_findBest_12 rfl ?_
  refine ab_pick [4, 5, 6, 3, 2, 1, 0] [(0, _), (1, _), (2, _), (4, _), (6, _), (8, _), (9, _)] rfl ?_
  exact q_M_findBest_L14 64 v1 v2 (-1 : Int64) (0 : Int64) (0 : Int32) (0 : Int32) M hyp
