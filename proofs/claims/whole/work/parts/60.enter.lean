/-! enter agrees -/
section ENTER
variable {n : Nat}
theorem c92_1 {s d x y v5 v6 : Int32} {M : Me} : M_enter_c92 s d x y v5 v6 1 M = some (0, sF M 4 1) := by
  unfold M_enter_c92 M_enter_c112 M_enter_c126
  rw [refused_1, refused_1, refused_1, refused_1, refused_1, refused_1, refused_1, refused_1]
  simp only [Option.bind_some, ite_self]
  rfl
theorem c92_2 {s d x y v6 : Int32} {M : Me} : M_enter_c92 s d x y 0 v6 0 M = some (0, sF M 4 2) := by
  unfold M_enter_c92 M_enter_c112 M_enter_c126
  rw [if_pos rfl, refused_2, refused_2, refused_2, refused_2]
  simp only [Option.bind_some, ite_self]
  rfl
theorem c92_3 {s d x y : Int32} {M : Me} : M_enter_c92 s d x y 1 0 0 M = some (0, sF M 4 3) := by
  unfold M_enter_c92 M_enter_c112 M_enter_c126
  rw [if_neg (by decide), if_pos rfl, refused_3, refused_3]
  simp only [Option.bind_some, ite_self]
  rfl
theorem c92_4 {s d x y : Int32} {M : Me} (h : gF M 5 = 24) : M_enter_c92 s d x y 1 1 0 M = some (0, sF M 4 4) := by
  unfold M_enter_c92 M_enter_c112 M_enter_c126
  rw [if_neg (by decide), if_neg (by decide), if_pos h, refused_4]
  rfl
theorem c92_0 {s d x y : Int32} {M : Me} (h : M.2.2.1 5 = Int32.ofNat n) (hn : n < 24) : M_enter_c92 s d x y 1 1 0 M = Option.bind (M_fill (sF (sI (sI (sI (sI (sF M 4 0) 12 (Int32.ofNat n) s) 13 (Int32.ofNat n) d) 14 (Int32.ofNat n) x) 15 (Int32.ofNat n) y) 5 (Int32.ofNat (n + 1)))) (fun r9 => some (((gF r9 5) - (1 : Int32)), r9)) := by
  have h5 : gF (sF M 4 0) 5 = Int32.ofNat n := h
  have e : ∀ (A : Me) (a : Nat) (i v : Int32), gF (sI A a i v) 5 = gF A 5 := fun _ _ _ _ => rfl
  unfold M_enter_c92 M_enter_c112 M_enter_c126
  rw [if_neg (by decide), if_neg (by decide), if_neg (by show ¬ M.2.2.1 5 = Int32.ofNat 24; rw [h, of_eq (by omega) (by omega)]; omega), refused_0, Option.bind_some, if_pos rfl]
  simp only [e, h5]
  rw [gd_in (by omega) (by omega), gd_in (by omega) (by omega), gd_in (by omega) (by omega), gd_in (by omega) (by omega), of_s]
theorem sex_cases (x : Int32) : (x = 0 ∨ x = 1) ∧ ¬ x < 0 ∧ ¬ 1 < x ∨ ¬ x = 0 ∧ ¬ x = 1 ∧ (x < 0 ∨ ¬ x < 0 ∧ 1 < x) := by
  by_cases h0 : x = 0
  · subst h0; exact Or.inl ⟨Or.inl rfl, by decide, by decide⟩
  · by_cases h1 : x = 1
    · subst h1; exact Or.inl ⟨Or.inr rfl, by decide, by decide⟩
    · refine Or.inr ⟨h0, h1, ?_⟩
      by_cases h2 : x < 0
      · exact Or.inl h2
      · refine Or.inr ⟨h2, ?_⟩
        rw [Int32.lt_iff_toInt_lt] at h2 ⊢
        have e0 : ¬ x.toInt = (0 : Int32).toInt := fun q => h0 (Int32.toInt_inj.mp q)
        have e1 : ¬ x.toInt = (1 : Int32).toInt := fun q => h1 (Int32.toInt_inj.mp q)
        have k0 : (0 : Int32).toInt = 0 := rfl
        have k1 : (1 : Int32).toInt = 1 := rfl
        omega
/-- the first refusal: both sides -/
theorem enter_bad (x y : Int32) : (x = 0 ∨ x = 1) ∧ ¬ x < 0 ∧ ¬ 1 < x ∧ ¬ y < 0 ∧ y ≤ 60 ∨ (∀ M s d, H_enter M s d x y = some (.error "java/lang/IllegalArgumentException", M)) ∧ ∀ s d v5 v6 M, M_enter_c63 s d x y v5 v6 M = M_enter_c92 s d x y v5 v6 1 M := by
  rcases sex_cases x with ⟨h1, h2, h3⟩ | ⟨h1, h2, h3⟩
  · by_cases h4 : y < 0
    · refine Or.inr ⟨fun M s d => ?_, fun s d v5 v6 M => ?_⟩
      · unfold H_enter H_enter_c9
        rw [if_pos h4]
        rcases h1 with h1 | h1
        · rw [if_pos h1]
        · rw [if_neg (by rw [h1]; decide), if_pos h1]
      · unfold M_enter_c63
        rw [if_neg h2, if_neg h3, if_pos h4]
    · by_cases h5 : y ≤ 60
      · exact Or.inl ⟨h1, h2, h3, h4, h5⟩
      · refine Or.inr ⟨fun M s d => ?_, fun s d v5 v6 M => ?_⟩
        · unfold H_enter H_enter_c9
          rw [if_neg h4, if_neg h5]
          rcases h1 with h1 | h1
          · rw [if_pos h1]
          · rw [if_neg (by rw [h1]; decide), if_pos h1]
        · unfold M_enter_c63
          rw [if_neg h2, if_neg h3, if_neg h4, if_neg h5]
  · refine Or.inr ⟨fun M s d => ?_, fun s d v5 v6 M => ?_⟩
    · unfold H_enter
      rw [if_neg h1, if_neg h2]
    · unfold M_enter_c63
      rcases h3 with h3 | ⟨h3, h4⟩
      · rw [if_pos h3]
      · rw [if_neg h3, if_pos h4]
theorem enter_good {x y : Int32} (h1 : x = 0 ∨ x = 1) (h2 : ¬ x < 0) (h3 : ¬ 1 < x) (h4 : ¬ y < 0) (h5 : y ≤ 60) : (∀ M s d, H_enter M s d x y = ab_thrP (H_requireAnimalOrNone M s) (fun r4 => ab_thrP (H_requireAnimalOrNone M d) (fun r7 => ab_thrP (H_requireFitParents M s d y) (fun r10 => Option.bind (P_size M) (fun r13 => if r13 < (24 : Int32) then (Option.bind (P_append M s d) (fun r16 => gd (inb r16.1 24) (gd (inb r16.1 24) (gd (inb r16.1 24) (some (.ok r16.1, (sZ (sI (sI r16.2 5 r16.1 x) 6 r16.1 y) 7 r16.1 (1 : Int32)))))))) else (some (.error "java/lang/IllegalStateException", M)))) (fun E11 => some (.error E11, M))) (fun E8 => some (.error E8, M))) (fun E5 => some (.error E5, M))) ∧ ∀ s d v5 v6 M, M_enter_c63 s d x y v5 v6 M = M_enter_c92 s d x y v5 v6 0 M := by
  refine ⟨fun M s d => ?_, fun s d v5 v6 M => ?_⟩
  · unfold H_enter H_enter_c9
    rw [if_neg h4, if_pos h5]
    rcases h1 with h1 | h1
    · rw [if_pos h1]
    · rw [if_neg (by rw [h1]; decide), if_pos h1]
  · unfold M_enter_c63
    rw [if_neg h2, if_neg h3, if_neg h4, if_pos h5]
/-- parents that are not there -/
theorem enter_front_no {M : Me} (h : IB M n) {s d : Int32} (hs : ¬ (par s n ∧ par d n)) (x y : Int32) : M_enter M s d x y = M_enter_c63 s d x y 0 0 M := by
  unfold M_enter M_enter_c21
  rcases par_cases n h.1 s with q | ⟨q1, q2⟩
  · rw [isParent_ok h q, Option.bind_some, if_neg (by decide)]
    rcases par_cases n h.1 d with w | ⟨w1, w2⟩
    · exact absurd ⟨q, w⟩ hs
    · rw [isParent_no h w1 w2, Option.bind_some, if_pos rfl, if_pos rfl]
  · rw [isParent_no h q1 q2, Option.bind_some, if_pos rfl, if_pos rfl]
theorem isParent_ok' {M : Me} (hn : n ≤ 24) (hc : gF M 5 = Int32.ofNat n) {p : Int32} (hp : par p n) : M_isParent M p = some 1 := by
  have h : IB (sF M 0 (Int32.ofNat n)) n := ⟨hn, rfl, hc⟩
  exact isParent_ok h hp
theorem enter_front {M M' : Me} (h : Inv M n) (hB5 : gF M' 5 = Int32.ofNat n) (e5 : ∀ i, i < n → M'.1 14 i = M.1 5 i) (e6 : ∀ i, i < n → M'.1 15 i = M.1 6 i) {s d : Int32} (hs : par s n) (hd : par d n) (x y : Int32) : M_enter M' s d x y = if qf M s 0 y = 0 then M_enter_c63 s d x y 1 0 M' else if qf M d 1 y = 0 then M_enter_c63 s d x y 1 0 M' else M_enter_c63 s d x y 1 1 M' := by
  have hn := h.1.1
  have k : ∀ (p sx : Int32), par p n → M_fits M' p sx y (gF M' 5) = some (if qf M p sx y = 0 then 0 else 1) := fun p sx hp => by
    rw [fits_v hn e5 e6 hp, hB5]
    rcases hp with hp | ⟨k, hk, hp⟩
    · have : qf M p sx y = 1 := by unfold qf; rw [if_pos hp]
      rw [if_pos hp, this, if_neg (by decide)]
    · have hpn : ¬ p = -1 := by rw [hp]; exact of_nm1 (by omega)
      rw [if_neg hpn, if_neg (show ¬ Int32.ofNat n ≤ p by rw [hp, of_le (by omega) (by omega)]; omega)]
  unfold M_enter M_enter_c21
  rw [isParent_ok' hn hB5 hs, Option.bind_some, if_neg (by decide), isParent_ok' hn hB5 hd, Option.bind_some, if_neg (by decide), if_neg (by decide), k s 0 hs, Option.bind_some, k d 1 hd, Option.bind_some]
  by_cases h1 : qf M s 0 y = 0
  · rw [if_pos h1, if_pos h1, if_pos rfl]
  · rw [if_neg h1, if_neg h1, if_neg (by decide)]
    by_cases h2 : qf M d 1 y = 0
    · rw [if_pos h2, if_pos h2, if_pos rfl]
    · rw [if_neg h2, if_neg h2, if_neg (by decide)]
theorem appendC {M : Me} (h : Inv M n) (hn : n < 24) {s d : Int32} (hs : par s n) (hd : par d n) : ∃ Mb : Me, P_append M s d = some (Int32.ofNat n, Mb) ∧ Rn (sI (sI (sF M 0 (Int32.ofNat (n + 1))) 0 (Int32.ofNat n) s) 1 (Int32.ofNat n) d) Mb n := by
  have hs0 : gF M 0 = Int32.ofNat n := h.1.s
  have e0 : (sI (sI (sF M 0 (Int32.ofNat (n + 1))) 0 (Int32.ofNat n) s) 1 (Int32.ofNat n) d).1 0 = upd (M.1 0) n s := by
    show upd (M.1 0) (Int32.ofNat n).toNatClampNeg s = _
    rw [of_cl (by omega)]
  have e1 : (sI (sI (sF M 0 (Int32.ofNat (n + 1))) 0 (Int32.ofNat n) s) 1 (Int32.ofNat n) d).1 1 = upd (M.1 1) n d := by
    show upd (M.1 1) (Int32.ofNat n).toNatClampNeg d = _
    rw [of_cl (by omega)]
  have u0 : ∀ i, i < n → M.1 0 i = upd (M.1 0) n s i := fun i hi => (if_neg (by omega)).symm
  have u1 : ∀ i, i < n → M.1 1 i = upd (M.1 1) n d i := fun i hi => (if_neg (by omega)).symm
  obtain ⟨Mb, b1, b2⟩ := renew (M := sI (sI (sF M 0 (Int32.ofNat (n + 1))) 0 (Int32.ofNat n) s) 1 (Int32.ofNat n) d) hn (by rw [e0]; show par (if n = n then s else _) n; rw [if_pos rfl]; exact hs) (by rw [e1]; show par (if n = n then d else _) n; rw [if_pos rfl]; exact hd) (fun i j hi hj => by
      rw [e0, e1, ← Kt_ext n (fun i hi => ⟨u0 i hi, u1 i hi⟩)]
      exact (h.2.2.2.2.1 i j hi hj).1) (fun i hi => by
      rw [e0, e1, ← Tb_ext n (fun i hi T => dstep_ext (u0 i hi) (u1 i hi) T)]
      exact (h.2.2.2.2.2.2.1 i hi).1) (fun i hi => by
      rw [e0, e1, ← Tb_ext n (fun i hi T => fstep_ext (u0 i hi) (u1 i hi) T)]
      exact (h.2.2.2.2.2.2.1 i hi).2)
  refine ⟨Mb, ?_, b2⟩
  unfold P_append
  rw [hs0, gd_in (by omega) (by omega), gd_in (by omega) (by omega), of_s, b1]
  rfl
theorem vnar1 : vp_nar .boolean (1 : Int32) = 1 := nz_true
theorem enter_ok {M : Me} (h : Inv M n) (hn : n < 24) {s d : Int32} (x y : Int32) (hs : par s n) (hd : par d n) : ∃ Mb M2 : Me, P_append M s d = some (Int32.ofNat n, Mb) ∧ M_enter_c92 s d x y 1 1 0 (sL (sZ (sI (sI Mb 5 (Int32.ofNat n) x) 6 (Int32.ofNat n) y) 7 (Int32.ofNat n) 1) 7 0 (Int32.ofNat n).toInt64) = some (Int32.ofNat n, M2) ∧ Mb.2.2.1 5 = Int32.ofNat n ∧ (∀ z, z = 14 ∨ z = 15 → Mb.1 z = M.1 z) ∧ M2.2.2.1 4 = 0 ∧ M2.2.1 7 = (sL (sZ (sI (sI Mb 5 (Int32.ofNat n) x) 6 (Int32.ofNat n) y) 7 (Int32.ofNat n) 1) 7 0 (Int32.ofNat n).toInt64).2.1 7 ∧ Inv M2 (n + 1) := by
  have hk : (Int32.ofNat n).toNatClampNeg = n := of_cl (by omega)
  obtain ⟨Mb, b1, r1, r2, r3, r4, r5, r6, r7⟩ := appendC h hn hs hd
  obtain ⟨hB, hA, hP, hL, hK, hI, hD, hJ⟩ := h
  have a0 : (sI (sI (sF M 0 (Int32.ofNat (n + 1))) 0 (Int32.ofNat n) s) 1 (Int32.ofNat n) d).1 0 = upd (M.1 0) n s := by
    show upd (M.1 0) (Int32.ofNat n).toNatClampNeg s = _
    rw [hk]
  have a1 : (sI (sI (sF M 0 (Int32.ofNat (n + 1))) 0 (Int32.ofNat n) s) 1 (Int32.ofNat n) d).1 1 = upd (M.1 1) n d := by
    show upd (M.1 1) (Int32.ofNat n).toNatClampNeg d = _
    rw [hk]
  have ax : ∀ z, ¬ z = 0 → ¬ z = 1 → (sI (sI (sF M 0 (Int32.ofNat (n + 1))) 0 (Int32.ofNat n) s) 1 (Int32.ofNat n) d).1 z = M.1 z := fun z h0 h1 => by
    show (if z = 1 then _ else if z = 0 then _ else M.1 z) = _
    rw [if_neg h1, if_neg h0]
  have u0 : ∀ i, i < n → M.1 0 i = upd (M.1 0) n s i := fun i hi => (if_neg (by omega)).symm
  have u1 : ∀ i, i < n → M.1 1 i = upd (M.1 1) n d i := fun i hi => (if_neg (by omega)).symm
  have un : ∀ (f : Nat → Int32) v, upd f n v n = v := fun f v => if_pos rfl
  have ui : ∀ (f : Nat → Int32) v i, ¬ i = n → upd f n v i = f i := fun f v i hi => if_neg hi
  have hcc : M.2.2.1 5 = Int32.ofNat n := hB.2.2
  -- the reference's memory ahead of fill
  generalize hM1 : sL (sZ (sI (sI Mb 5 (Int32.ofNat n) x) 6 (Int32.ofNat n) y) 7 (Int32.ofNat n) 1) 7 0 (Int32.ofNat n).toInt64 = M1
  have m22 : M1.2.2 = Mb.2.2 := by rw [← hM1]; rfl
  have m0 : ∀ z, ¬ z = 5 → ¬ z = 6 → ¬ z = 7 → M1.1 z = Mb.1 z := fun z h5 h6 h7 => by
    rw [← hM1]
    show (if z = 7 then _ else if z = 6 then _ else if z = 5 then _ else Mb.1 z) = _
    rw [if_neg h7, if_neg h6, if_neg h5]
  have m5 : M1.1 5 = upd (M.1 5) n x := by
    rw [← hM1]
    show upd (Mb.1 5) (Int32.ofNat n).toNatClampNeg x = _
    rw [hk, r1 5 (by decide) (by decide), ax 5 (by decide) (by decide)]
  have m6 : M1.1 6 = upd (M.1 6) n y := by
    rw [← hM1]
    show upd (Mb.1 6) (Int32.ofNat n).toNatClampNeg y = _
    rw [hk, r1 6 (by decide) (by decide), ax 6 (by decide) (by decide)]
  have m7 : M1.1 7 = upd (M.1 7) n 1 := by
    rw [← hM1]
    show upd (Mb.1 7) (Int32.ofNat n).toNatClampNeg (vp_nar .boolean (1 : Int32)) = _
    rw [hk, vnar1, r1 7 (by decide) (by decide), ax 7 (by decide) (by decide)]
  have ml : ∀ z, ¬ z = 7 → M1.2.1 z = Mb.2.1 z := fun z h7 => by
    rw [← hM1]
    exact if_neg h7
  have mc : M1.2.2.1 5 = Int32.ofNat n := by rw [m22, r4]; exact hcc
  have f1 : ∀ z, ¬ z = 12 → ¬ z = 13 → ¬ z = 14 → ¬ z = 15 → (sF (sI (sI (sI (sI (sF M1 4 0) 12 (Int32.ofNat n) s) 13 (Int32.ofNat n) d) 14 (Int32.ofNat n) x) 15 (Int32.ofNat n) y) 5 (Int32.ofNat (n + 1))).1 z = M1.1 z := fun z h1 h2 h3 h4 => by
    show (if z = 15 then _ else if z = 14 then _ else if z = 13 then _ else if z = 12 then _ else M1.1 z) = _
    rw [if_neg h4, if_neg h3, if_neg h2, if_neg h1]
  have f12 : (sF (sI (sI (sI (sI (sF M1 4 0) 12 (Int32.ofNat n) s) 13 (Int32.ofNat n) d) 14 (Int32.ofNat n) x) 15 (Int32.ofNat n) y) 5 (Int32.ofNat (n + 1))).1 12 = upd (M.1 12) n s := by
    show upd (M1.1 12) (Int32.ofNat n).toNatClampNeg s = _
    rw [hk, m0 12 (by decide) (by decide) (by decide), r1 12 (by decide) (by decide), ax 12 (by decide) (by decide)]
  have f13 : (sF (sI (sI (sI (sI (sF M1 4 0) 12 (Int32.ofNat n) s) 13 (Int32.ofNat n) d) 14 (Int32.ofNat n) x) 15 (Int32.ofNat n) y) 5 (Int32.ofNat (n + 1))).1 13 = upd (M.1 13) n d := by
    show upd (M1.1 13) (Int32.ofNat n).toNatClampNeg d = _
    rw [hk, m0 13 (by decide) (by decide) (by decide), r1 13 (by decide) (by decide), ax 13 (by decide) (by decide)]
  have f14 : (sF (sI (sI (sI (sI (sF M1 4 0) 12 (Int32.ofNat n) s) 13 (Int32.ofNat n) d) 14 (Int32.ofNat n) x) 15 (Int32.ofNat n) y) 5 (Int32.ofNat (n + 1))).1 14 = upd (M.1 14) n x := by
    show upd (M1.1 14) (Int32.ofNat n).toNatClampNeg x = _
    rw [hk, m0 14 (by decide) (by decide) (by decide), r1 14 (by decide) (by decide), ax 14 (by decide) (by decide)]
  have f15 : (sF (sI (sI (sI (sI (sF M1 4 0) 12 (Int32.ofNat n) s) 13 (Int32.ofNat n) d) 14 (Int32.ofNat n) x) 15 (Int32.ofNat n) y) 5 (Int32.ofNat (n + 1))).1 15 = upd (M.1 15) n y := by
    show upd (M1.1 15) (Int32.ofNat n).toNatClampNeg y = _
    rw [hk, m0 15 (by decide) (by decide) (by decide), r1 15 (by decide) (by decide), ax 15 (by decide) (by decide)]
  have hPR : PR (upd (M.1 12) n s) (upd (M.1 13) n d) (n + 1) := fun i hi => by
    by_cases hin : i = n
    · subst hin; rw [un, un]; exact ⟨hs, hd⟩
    · rw [ui _ _ _ hin, ui _ _ _ hin, (hA i (by omega)).1, (hA i (by omega)).2.1]; exact hP i (by omega)
  obtain ⟨M2, q1, q2, q3, q4⟩ := fillM (n := n + 1) (M := sF (sI (sI (sI (sI (sF M1 4 0) 12 (Int32.ofNat n) s) 13 (Int32.ofNat n) d) 14 (Int32.ofNat n) x) 15 (Int32.ofNat n) y) 5 (Int32.ofNat (n + 1))) (by omega) (by rw [f12, f13]; exact hPR) rfl
  refine ⟨Mb, M2, b1, ?_, by rw [r4]; exact hcc, fun z hz => by rw [r1 z (by omega) (by omega), ax z (by omega) (by omega)], ?_, ?_, ?_⟩
  · rw [hM1, c92_0 mc hn, q1, Option.bind_some]
    have : gF M2 5 = Int32.ofNat (n + 1) := by unfold gF; rw [q2.2.1]; rfl
    rw [this, ← of_s, Int32.add_sub_cancel]
  · rw [q2.2.1]; rfl
  · rw [hM1, q2.2.2 7 (by decide) (by decide)]; rfl
  · rw [f12, f13] at q3 q4
    have w : ∀ z, M2.1 z = (sF (sI (sI (sI (sI (sF M1 4 0) 12 (Int32.ofNat n) s) 13 (Int32.ofNat n) d) 14 (Int32.ofNat n) x) 15 (Int32.ofNat n) y) 5 (Int32.ofNat (n + 1))).1 z := fun z => by rw [q2.1]
    have w0 : M2.1 0 = upd (M.1 0) n s := by rw [w, f1 0 (by decide) (by decide) (by decide) (by decide), m0 0 (by decide) (by decide) (by decide), r1 0 (by decide) (by decide), a0]
    have w1 : M2.1 1 = upd (M.1 1) n d := by rw [w, f1 1 (by decide) (by decide) (by decide) (by decide), m0 1 (by decide) (by decide) (by decide), r1 1 (by decide) (by decide), a1]
    have w2 : M2.1 2 = upd (M.1 2) n (Tb (dstep (upd (M.1 0) n s) (upd (M.1 1) n d)) 0 (n + 1) n) := by rw [w, f1 2 (by decide) (by decide) (by decide) (by decide), m0 2 (by decide) (by decide) (by decide), r2, a0, a1]; rfl
    have w3 : M2.1 3 = upd (M.1 3) n (Tb (fstep (upd (M.1 0) n s) (upd (M.1 1) n d)) 0 (n + 1) n) := by rw [w, f1 3 (by decide) (by decide) (by decide) (by decide), m0 3 (by decide) (by decide) (by decide), r3, a0, a1]; rfl
    have w5 : M2.1 5 = upd (M.1 5) n x := by rw [w, f1 5 (by decide) (by decide) (by decide) (by decide), m5]
    have w6 : M2.1 6 = upd (M.1 6) n y := by rw [w, f1 6 (by decide) (by decide) (by decide) (by decide), m6]
    have w7 : M2.1 7 = upd (M.1 7) n 1 := by rw [w, f1 7 (by decide) (by decide) (by decide) (by decide), m7]
    have wz : ∀ z, z = 8 ∨ z = 16 ∨ z = 19 → M2.1 z = M.1 z := fun z hz => by rw [w, f1 z (by omega) (by omega) (by omega) (by omega), m0 z (by omega) (by omega) (by omega), r1 z (by omega) (by omega), ax z (by omega) (by omega)]
    have w12 : M2.1 12 = upd (M.1 12) n s := by rw [w, f12]
    have w13 : M2.1 13 = upd (M.1 13) n d := by rw [w, f13]
    have w14 : M2.1 14 = upd (M.1 14) n x := by rw [w, f14]
    have w15 : M2.1 15 = upd (M.1 15) n y := by rw [w, f15]
    have fz : ∀ z, ¬ z = 5 → ¬ z = 4 → M2.2.2.1 z = Mb.2.2.1 z := fun z h5 h4 => by
      rw [q2.2.1]
      show (if z = 5 then _ else if z = 4 then _ else M1.2.2.1 z) = _
      rw [if_neg h5, if_neg h4, m22]
    have v0 : M2.2.2.1 0 = Int32.ofNat (n + 1) := by rw [fz 0 (by decide) (by decide), r4]; rfl
    have v1 : M2.2.2.1 1 = M.2.2.1 1 := by rw [fz 1 (by decide) (by decide), r4]; rfl
    have v6 : M2.2.2.1 6 = M.2.2.1 6 := by rw [fz 6 (by decide) (by decide), r4]; rfl
    have v5 : M2.2.2.1 5 = Int32.ofNat (n + 1) := by rw [q2.2.1]; rfl
    have lz : ∀ z, ¬ z = 4 → ¬ z = 5 → ¬ z = 7 → M2.2.1 z = Mb.2.1 z := fun z h4 h5 h7 => by
      rw [q2.2.2 z h4 h5]
      exact ml z h7
    have eK : ∀ m, m ≤ n → Kt (M.1 0) (M.1 1) m = Kt (upd (M.1 0) n s) (upd (M.1 1) n d) m := fun m hm => Kt_ext m (fun i hi => ⟨u0 i (by omega), u1 i (by omega)⟩)
    refine Inv_mk ⟨by omega, v0, v5⟩ ?_ ?_ ⟨?_, ?_⟩ ?_ ?_ ?_ ?_ ?_ ⟨?_, ?_⟩
    · intro i hi
      rw [w0, w1, w5, w6, w12, w13, w14, w15]
      by_cases hin : i = n
      · subst hin; rw [un, un, un, un, un, un, un, un]; exact ⟨rfl, rfl, rfl, rfl⟩
      · rw [ui _ _ _ hin, ui _ _ _ hin, ui _ _ _ hin, ui _ _ _ hin, ui _ _ _ hin, ui _ _ _ hin, ui _ _ _ hin, ui _ _ _ hin]; exact hA i (by omega)
    · intro i hi
      rw [w0, w1]
      by_cases hin : i = n
      · subst hin; rw [un, un]; exact ⟨hs, hd⟩
      · rw [ui _ _ _ hin, ui _ _ _ hin]; exact hP i (by omega)
    · intro i hi
      rw [w7, wz 16 (by omega)]
      by_cases hin : i = n
      · subst hin; rw [un]; exact Or.inl ⟨rfl, hL.2 i (by omega) (by omega)⟩
      · rw [ui _ _ _ hin]; exact hL.1 i (by omega)
    · intro i h1 h2
      rw [wz 16 (by omega)]
      exact hL.2 i (by omega) h2
    · intro i j hi hj
      rw [lz _ (by omega) (by omega) (by omega), w0, w1, r7 i j hi hj, a0, a1]
    · intro i j hi hj
      rw [w12, w13]
      exact q3 i j hi hj
    · intro i hi
      rw [lz 0 (by decide) (by decide) (by decide), w0, w1, r6, a0, a1]
      show (if i = n then _ else M.2.1 0 i) = _
      by_cases hin : i = n
      · subst hin
        rw [if_pos rfl, un, un, kp_to (n := i + 1) hs hd (by omega) (by omega)]
      · have hpi := hP i (by omega)
        rw [if_neg hin, ui _ _ _ hin, ui _ _ _ hin, (hI i (by omega)).1, kp_to (n := n) hpi.1 hpi.2 (by omega) (by omega), kp_to (n := n + 1) hpi.1 hpi.2 (by omega) (by omega), eK i (by omega)]
    · intro i hi
      rw [w12, w13]
      exact q4 i hi
    · intro i hi
      rw [w2, w3, w0, w1]
      show (if i = n then _ else M.1 2 i) = _ ∧ (if i = n then _ else M.1 3 i) = _
      by_cases hin : i = n
      · subst hin
        rw [if_pos rfl, if_pos rfl]
        exact ⟨rfl, rfl⟩
      · rw [if_neg hin, if_neg hin, Tb_to (n := n) (m := n + 1) (show i < n by omega) (by omega), Tb_to (n := n) (m := n + 1) (show i < n by omega) (by omega), ← Tb_ext n (fun i hi T => dstep_ext (u0 i hi) (u1 i hi) T), ← Tb_ext n (fun i hi T => fstep_ext (u0 i hi) (u1 i hi) T)]
        exact hD i (by omega)
    · intro i hi
      rw [wz 8 (by omega), wz 19 (by omega)]
      exact ⟨(hJ.1 i hi).1, par_mono (hJ.1 i hi).2.1 (by omega), fun q => (hJ.1 i hi).2.2 (by omega)⟩
    · rw [v1, v6]
      exact hJ.2
theorem sim_enter {M : Me} (h : Inv M n) (s d x y : Int32) : ∃ n', SimI (L_enter M s d x y) (fun M1 => M_enter M1 s d x y) n' := by
  have hn := h.1.1
  rcases enter_bad x y with ⟨h1, h2, h3, h4, h5⟩ | ⟨b1, b2⟩
  · obtain ⟨g1, g2⟩ := enter_good h1 h2 h3 h4 h5
    rcases par_cases n hn s with hs | ⟨s1, s2⟩
    · rcases par_cases n hn d with hd | ⟨d1, d2⟩
      · by_cases f1 : qf M s 0 y = 0
        · refine ⟨n, simI_er 3 h ?_ ?_ (by decide)⟩
          · unfold L_enter
            rw [g1, orNone_ok h.1 hs, thrP_ok, orNone_ok h.1 hd, thrP_ok, reqFit hn hs hd, if_pos f1]
            rfl
          · show M_enter M s d x y = _
            rw [enter_front h h.1.c (fun i hi => (h.2.1 i hi).2.2.1) (fun i hi => (h.2.1 i hi).2.2.2) hs hd, if_pos f1, g2, c92_3]
        · by_cases f2 : qf M d 1 y = 0
          · refine ⟨n, simI_er 3 h ?_ ?_ (by decide)⟩
            · unfold L_enter
              rw [g1, orNone_ok h.1 hs, thrP_ok, orNone_ok h.1 hd, thrP_ok, reqFit hn hs hd, if_neg f1, if_pos f2]
              rfl
            · show M_enter M s d x y = _
              rw [enter_front h h.1.c (fun i hi => (h.2.1 i hi).2.2.1) (fun i hi => (h.2.1 i hi).2.2.2) hs hd, if_neg f1, if_pos f2, g2, c92_3]
          · by_cases hn2 : n < 24
            · obtain ⟨Mb, M2, k1, k2, j1, j2, k3, k4, k5⟩ := enter_ok h hn2 x y hs hd
              refine ⟨n + 1, simI_ok (Mx := sZ (sI (sI Mb 5 (Int32.ofNat n) x) 6 (Int32.ofNat n) y) 7 (Int32.ofNat n) 1) (r := Int32.ofNat n) (M2 := M2) ?_ ?_ k3 k4 k5⟩
              · unfold L_enter
                rw [g1, orNone_ok h.1 hs, thrP_ok, orNone_ok h.1 hd, thrP_ok, reqFit hn hs hd, if_neg f1, if_neg f2, thrP_ok, P_size_v h.1, Option.bind_some, if_pos (show Int32.ofNat n < 24 from (of_lt (b := 24) (by omega) (by omega)).mpr hn2), k1, Option.bind_some]
                show ab_thrW (gd (inb (Int32.ofNat n) 24) (gd (inb (Int32.ofNat n) 24) (gd (inb (Int32.ofNat n) 24) _))) _ _ = _
                rw [gd_in (by omega) (by omega), gd_in (by omega) (by omega), gd_in (by omega) (by omega)]
                rfl
              · show M_enter _ s d x y = _
                have y5 : ∀ i, i < n → (sL (sZ (sI (sI Mb 5 (Int32.ofNat n) x) 6 (Int32.ofNat n) y) 7 (Int32.ofNat n) 1) 7 0 (Int32.ofNat n).toInt64).1 14 i = M.1 5 i := fun i hi => by
                  show Mb.1 14 i = _
                  rw [j2 14 (by omega)]
                  exact (h.2.1 i hi).2.2.1
                have y6 : ∀ i, i < n → (sL (sZ (sI (sI Mb 5 (Int32.ofNat n) x) 6 (Int32.ofNat n) y) 7 (Int32.ofNat n) 1) 7 0 (Int32.ofNat n).toInt64).1 15 i = M.1 6 i := fun i hi => by
                  show Mb.1 15 i = _
                  rw [j2 15 (by omega)]
                  exact (h.2.1 i hi).2.2.2
                rw [enter_front h (M' := sL (sZ (sI (sI Mb 5 (Int32.ofNat n) x) 6 (Int32.ofNat n) y) 7 (Int32.ofNat n) 1) 7 0 (Int32.ofNat n).toInt64) j1 y5 y6 hs hd, if_neg f1, if_neg f2, g2]
                exact k2
            · have hn3 : n = 24 := by omega
              refine ⟨n, simI_er 4 h ?_ ?_ (by decide)⟩
              · unfold L_enter
                rw [g1, orNone_ok h.1 hs, thrP_ok, orNone_ok h.1 hd, thrP_ok, reqFit hn hs hd, if_neg f1, if_neg f2, thrP_ok, P_size_v h.1, Option.bind_some, if_neg (by rw [hn3]; decide)]
                rfl
              · show M_enter M s d x y = _
                rw [enter_front h h.1.c (fun i hi => (h.2.1 i hi).2.2.1) (fun i hi => (h.2.1 i hi).2.2.2) hs hd, if_neg f1, if_neg f2, g2, c92_4 (by rw [h.1.c, hn3]; rfl)]
      · refine ⟨n, simI_er 2 h ?_ ?_ (by decide)⟩
        · unfold L_enter
          rw [g1, orNone_ok h.1 hs, thrP_ok, orNone_no h.1 d1 d2]
          rfl
        · show M_enter M s d x y = _
          rw [enter_front_no h.1 (fun q => by
            rcases q.2 with q | ⟨k, hk, q⟩
            · exact d1 q
            · rcases d2 with d2 | ⟨-, d2⟩
              · rw [q] at d2; exact of_nlt0 (by omega) d2
              · rw [q, of_le (by omega) (by omega)] at d2; omega), g2, c92_2]
    · refine ⟨n, simI_er 2 h ?_ ?_ (by decide)⟩
      · unfold L_enter
        rw [g1, orNone_no h.1 s1 s2]
        rfl
      · show M_enter M s d x y = _
        rw [enter_front_no h.1 (fun q => by
            rcases q.1 with q | ⟨k, hk, q⟩
            · exact s1 q
            · rcases s2 with s2 | ⟨-, s2⟩
              · rw [q] at s2; exact of_nlt0 (by omega) s2
              · rw [q, of_le (by omega) (by omega)] at s2; omega), g2, c92_2]
  · refine ⟨n, simI_er 1 h ?_ ?_ (by decide)⟩
    · unfold L_enter
      rw [b1]
      rfl
    · show M_enter M s d x y = _
      by_cases hp : par s n ∧ par d n
      · rw [enter_front h h.1.c (fun i hi => (h.2.1 i hi).2.2.1) (fun i hi => (h.2.1 i hi).2.2.2) hp.1 hp.2, b2, b2, c92_1, c92_1, ite_self, ite_self]
      · rw [enter_front_no h.1 hp, b2, c92_1]
end ENTER
