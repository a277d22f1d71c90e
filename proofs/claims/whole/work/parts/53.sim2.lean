/-! bestBull, herd, planned, cull -/
section SIM2
variable {M M' : Me} {n : Nat}
theorem succ_of {F d : Nat} (h : d < F) : ∃ G, F = G + 1 := ⟨F - 1, by omega⟩
theorem bull_eq (h : Inv M n) (g : Ag M M') {i : Nat} (hi : i < n) : ∃ q : Int32, H_isLiving M (Int32.ofNat i) 0 = some q ∧ M_isBull M' (Int32.ofNat i) = some q := by
  have hn := h.1.1
  have hs : M'.1 14 i = M.1 5 i := by rw [g.1 14 rfl]; exact (h.2.1 i hi).2.2.1
  unfold H_isLiving M_isBull
  rw [gd_in (by omega) (by omega), gd_in (by omega) (by omega), gd_in (by omega) (by omega), gd_in (by omega) (by omega), gI_of M 7 (by omega), gI_of M 5 (by omega), gI_of M' 14 (by omega), gI_of M' 16 (by omega), hs]
  have h10 : ¬ (1 : Int32) = 0 := by decide
  rcases al_cases h hi g with ⟨h1, h2⟩ | ⟨h1, h2⟩ <;> by_cases hx : M.1 5 i = 0
  · rw [h1, h2]; simp only [h10, hx, if_true, if_false]; exact ⟨1, rfl, rfl⟩
  · rw [h1, h2]; simp only [h10, hx, if_true, if_false]; exact ⟨0, rfl, rfl⟩
  · rw [h1, h2]; simp only [h10, hx, if_true, if_false]; exact ⟨0, rfl, rfl⟩
  · rw [h1, h2]; simp only [h10, hx, if_true, if_false]; exact ⟨0, rfl, rfl⟩
theorem twin_bestBull (h : Inv M n) (g : Ag M M') {a : Nat} (ha : a < n) : ∀ (d i F F' : Nat) (c : Int32), i + d = n → d < F → d < F' → par c i → ∃ r : Int32, H_bestBull_L9 M F (Int32.ofNat a) c (Int32.ofNat i) = some (.ok r) ∧ M_bestBull_L29 F' (Int32.ofNat a) c (Int32.ofNat i) M' = some (r, M') := by
  have hn := h.1.1
  have hB' := IB_Ag g h
  intro d
  induction d with
  | zero =>
    intro i F F' c hi hF hF' hc
    obtain ⟨F, rfl⟩ := succ_of hF
    obtain ⟨F', rfl⟩ := succ_of hF'
    have hi2 : i = n := by omega
    subst hi2
    refine ⟨c, ?_, ?_⟩
    · show H_bestBull_b9 _ _ _ _ _ = _
      unfold H_bestBull_b9
      rw [P_size_v h.1, Option.bind_some, if_pos (Int32.le_refl _)]
    · show M_bestBull_b29 _ _ _ _ _ = _
      unfold M_bestBull_b29
      rw [hB'.c, if_pos (Int32.le_refl _)]
  | succ d ih =>
    intro i F F' c hi hF hF' hc
    obtain ⟨F, rfl⟩ := succ_of hF
    obtain ⟨F', rfl⟩ := succ_of hF'
    have hni : ¬ Int32.ofNat n ≤ Int32.ofNat i := by rw [of_le (by omega) (by omega)]; omega
    have hc' : par c (i + 1) := by
      rcases hc with hc | ⟨k, hk, hc⟩
      · exact Or.inl hc
      · exact Or.inr ⟨k, by omega, hc⟩
    have hi' : par (Int32.ofNat i) (i + 1) := Or.inr ⟨i, by omega, rfl⟩
    show ∃ r : Int32, H_bestBull_b9 M (H_bestBull_L9 M F) (Int32.ofNat a) c (Int32.ofNat i) = some (.ok r) ∧ M_bestBull_b29 (M_bestBull_L29 F') (Int32.ofNat a) c (Int32.ofNat i) M' = some (r, M')
    unfold H_bestBull_b9 M_bestBull_b29
    obtain ⟨q, q1, q2⟩ := bull_eq h g (show i < n by omega)
    rw [P_size_v h.1, Option.bind_some, if_neg hni, hB'.c, if_neg hni, of_s, q1, q2, Option.bind_some, Option.bind_some]
    by_cases hq : q = 0
    · rw [if_pos hq, if_pos hq]
      exact ih (i + 1) F F' c (by omega) (by omega) (by omega) hc'
    · rw [if_neg hq, if_neg hq]
      rcases hc with hc | ⟨k, hk, hc⟩
      · rw [if_pos hc, if_pos (by rw [hc]; decide)]
        exact ih (i + 1) F F' _ (by omega) (by omega) (by omega) hi'
      · subst hc
        rw [if_neg (of_nm1 (by omega)), if_neg (of_nlt0 (by omega)), kinP h.1 h.2.2.2.2.1 ha (by omega), Option.bind_some, kinP h.1 h.2.2.2.2.1 ha (by omega), Option.bind_some, kinM' h g ha (by omega), Option.bind_some, kinM' h g ha (by omega), Option.bind_some]
        by_cases hk2 : Kt (M.1 0) (M.1 1) n a k ≤ Kt (M.1 0) (M.1 1) n a i
        · rw [if_pos hk2, if_pos hk2]
          exact ih (i + 1) F F' _ (by omega) (by omega) (by omega) hc'
        · rw [if_neg hk2, if_neg hk2]
          exact ih (i + 1) F F' _ (by omega) (by omega) (by omega) hi'
theorem sim_bestBull (h : Inv M n) (a : Int32) : SimI (L_bestBull M a) (fun M1 => M_bestBull M1 a) n := by
  have hn := h.1.1
  rcases isA_cases n hn a with ⟨i, hi, rfl⟩ | ha
  · obtain ⟨r, h1, -⟩ := twin_bestBull h (Ag_rf M) hi n 0 64 64 (-1) (by omega) (by omega) (by omega) (Or.inl rfl)
    obtain ⟨r2, h2, h3⟩ := twin_bestBull h (Ag_70 M r.toInt64) hi n 0 64 64 (-1) (by omega) (by omega) (by omega) (Or.inl rfl)
    rw [h1] at h2
    cases h2
    have hB := IB_Ag (Ag_7 M r.toInt64) h
    refine simI_ok (Mx := M) (r := r) (M2 := sF (sL M 7 0 r.toInt64) 4 0) ?_ ?_ rfl rfl (Inv_Ag (Ag_70 M _) h)
    · unfold L_bestBull H_bestBull
      rw [reqA_ok h.1 hi, thrP_ok]
      show ab_thrP (H_bestBull_L9 M 64 (Int32.ofNat i) (-1) (Int32.ofNat 0)) _ _ = _
      rw [h1]
      rfl
    · show M_bestBull _ _ = _
      unfold M_bestBull M_bestBull_c14
      rw [is_ok hB hi, Option.bind_some, if_neg (by decide), refused_0, Option.bind_some, if_pos rfl]
      exact h3
  · refine simI_er 1 h ?_ ?_ (by decide)
    · unfold L_bestBull H_bestBull
      rw [reqA_no h.1 ha]
      rfl
    · show M_bestBull _ _ = _
      unfold M_bestBull M_bestBull_c14
      rw [is_no h.1 ha, Option.bind_some, if_pos rfl, refused_1]
      rfl
/-- calls that throw nothing -/
def SimP (hx : Option Int64) (mx : Option (Int64 × Me)) (n' : Nat) : Prop := ∃ (r : Int64) (M2 : Me), hx = some r ∧ mx = some (r, M2) ∧ Inv M2 n'
def SimQ (hx : Option Int32) (mx : Option (Int32 × Me)) (n' : Nat) : Prop := ∃ (r : Int32) (M2 : Me), hx = some r ∧ mx = some (r, M2) ∧ Inv M2 n'
theorem sim_animals (h : Inv M n) : SimQ (H_animals M) (M_animals M) n := by
  refine ⟨Int32.ofNat n, sF M 4 0, ?_, ?_, Inv_Ag (Ag_sF M 0 rfl) h⟩
  · unfold H_animals; rw [P_size_v h.1]; rfl
  · unfold M_animals
    show some (gF M 5, _) = _
    rw [h.1.c]
theorem twin_kin (h : Inv M n) (g : Ag M M') {b : Nat} (hb : b < n) (rec9 : Int64 → Int32 → Me → Option (Int64 × Me)) (hl : M'.1 16 b = 0) : ∀ (d a F F' : Nat), a + d = b + 1 → d < F → d < F' → ∃ r : Int64, ∀ c s : Int64, H_kinWithLivingUpTo_L5 M F (Int32.ofNat b) c (Int32.ofNat a) = some (c + r) ∧ M_herd_L20 rec9 F' s (Int32.ofNat b) (Int32.ofNat a) M' = rec9 (s + r) (Int32.ofNat (b + 1)) M' := by
  have hn := h.1.1
  intro d
  induction d with
  | zero =>
    intro a F F' ha hF hF'
    obtain ⟨F, rfl⟩ := succ_of hF
    obtain ⟨F', rfl⟩ := succ_of hF'
    have hlt : Int32.ofNat b < Int32.ofNat a := by rw [of_lt (by omega) (by omega)]; omega
    refine ⟨0, fun c s => ⟨?_, ?_⟩⟩
    · show H_kinWithLivingUpTo_b5 _ _ _ _ _ = _
      unfold H_kinWithLivingUpTo_b5
      rw [if_pos hlt, Int64.add_zero]
    · show M_herd_b20 _ _ _ _ _ _ = _
      unfold M_herd_b20
      rw [if_pos hlt, Int64.add_zero, of_s]
  | succ d ih =>
    intro a F F' ha hF hF'
    obtain ⟨F, rfl⟩ := succ_of hF
    obtain ⟨F', rfl⟩ := succ_of hF'
    have hlt : ¬ Int32.ofNat b < Int32.ofNat a := by rw [of_lt (by omega) (by omega)]; omega
    obtain ⟨r, hr⟩ := ih (a + 1) F F' (by omega) (by omega) (by omega)
    have han : a < n := by omega
    have e1 : ∀ c, H_kinWithLivingUpTo_L5 M (F + 1) (Int32.ofNat b) c (Int32.ofNat a) = H_kinWithLivingUpTo_b5 M (H_kinWithLivingUpTo_L5 M F) (Int32.ofNat b) c (Int32.ofNat a) := fun c => rfl
    have e2 : ∀ s, M_herd_L20 rec9 (F' + 1) s (Int32.ofNat b) (Int32.ofNat a) M' = M_herd_b20 rec9 (M_herd_L20 rec9 F') s (Int32.ofNat b) (Int32.ofNat a) M' := fun s => rfl
    rcases al_cases h han g with ⟨h1, h2⟩ | ⟨h1, h2⟩
    · refine ⟨Kt (M.1 0) (M.1 1) n a b + r, fun c s => ⟨?_, ?_⟩⟩
      · rw [e1]
        unfold H_kinWithLivingUpTo_b5
        rw [if_neg hlt, gd_in (by omega) (by omega), gI_of M 7 (by omega), h1, if_neg (by decide), kinP h.1 h.2.2.2.2.1 han hb, Option.bind_some, of_s, (hr _ s).1, Int64.add_assoc]
      · rw [e2]
        unfold M_herd_b20
        rw [if_neg hlt, gd_in (by omega) (by omega), gI_of M' 16 (by omega), h2, if_pos rfl, gd_in (by omega) (by omega), gI_of M' 16 (by omega), hl, if_pos rfl, kinM' h g han hb, Option.bind_some, of_s, (hr c _).2, Int64.add_assoc]
    · refine ⟨r, fun c s => ⟨?_, ?_⟩⟩
      · rw [e1]
        unfold H_kinWithLivingUpTo_b5
        rw [if_neg hlt, gd_in (by omega) (by omega), gI_of M 7 (by omega), h1, if_pos rfl, of_s, (hr _ s).1]
      · rw [e2]
        unfold M_herd_b20
        rw [if_neg hlt, gd_in (by omega) (by omega), gI_of M' 16 (by omega), h2, if_neg (by decide), of_s, (hr c _).2]
theorem dead_kin (h : Inv M n) (g : Ag M M') {b : Nat} (hb : b < n) (rec9 : Int64 → Int32 → Me → Option (Int64 × Me)) (hl : M'.1 16 b = 1) (s : Int64) : ∀ (d a F' : Nat), a + d = b + 1 → d < F' → M_herd_L20 rec9 F' s (Int32.ofNat b) (Int32.ofNat a) M' = rec9 s (Int32.ofNat (b + 1)) M' := by
  have hn := h.1.1
  intro d
  induction d with
  | zero =>
    intro a F' ha hF'
    obtain ⟨F', rfl⟩ := succ_of hF'
    have hlt : Int32.ofNat b < Int32.ofNat a := by rw [of_lt (by omega) (by omega)]; omega
    show M_herd_b20 _ _ _ _ _ _ = _
    unfold M_herd_b20
    rw [if_pos hlt, of_s]
  | succ d ih =>
    intro a F' ha hF'
    obtain ⟨F', rfl⟩ := succ_of hF'
    have hlt : ¬ Int32.ofNat b < Int32.ofNat a := by rw [of_lt (by omega) (by omega)]; omega
    have han : a < n := by omega
    show M_herd_b20 rec9 (M_herd_L20 rec9 F') s (Int32.ofNat b) (Int32.ofNat a) M' = _
    unfold M_herd_b20
    rw [if_neg hlt, gd_in (by omega) (by omega), gI_of M' 16 (by omega), gd_in (by omega) (by omega), gI_of M' 16 (by omega), hl, if_neg (show ¬ (1 : Int32) = 0 by decide), of_s, ih (a + 1) F' (by omega) (by omega)]
    rcases al_cases h han g with ⟨h1, h2⟩ | ⟨h1, h2⟩
    · rw [h2, if_pos rfl]
    · rw [h2, if_neg (by decide)]
theorem twin_herd (h : Inv M n) (g : Ag M M') : ∀ (d b F F' : Nat) (s : Int64), b + d = n → d < F → d < F' → ∃ r : Int64, H_herd_L4 M F s (Int32.ofNat b) = some r ∧ M_herd_L9 F' s (Int32.ofNat b) M' = some (r, M') := by
  have hn := h.1.1
  have hB' := IB_Ag g h
  intro d
  induction d with
  | zero =>
    intro b F F' s hb hF hF'
    obtain ⟨F, rfl⟩ := succ_of hF
    obtain ⟨F', rfl⟩ := succ_of hF'
    have hb2 : b = n := by omega
    subst hb2
    refine ⟨s, ?_, ?_⟩
    · show H_herd_b4 _ _ _ _ = _
      unfold H_herd_b4
      rw [P_size_v h.1, Option.bind_some, if_pos (Int32.le_refl _)]
    · show M_herd_b9 _ _ _ _ = _
      unfold M_herd_b9
      rw [hB'.c, if_pos (Int32.le_refl _)]
  | succ d ih =>
    intro b F F' s hb hF hF'
    obtain ⟨F, rfl⟩ := succ_of hF
    obtain ⟨F', rfl⟩ := succ_of hF'
    have hni : ¬ Int32.ofNat n ≤ Int32.ofNat b := by rw [of_le (by omega) (by omega)]; omega
    have hbn : b < n := by omega
    show ∃ r : Int64, H_herd_b4 M (H_herd_L4 M F) s (Int32.ofNat b) = some r ∧ M_herd_b9 (M_herd_L9 F') s (Int32.ofNat b) M' = some (r, M')
    unfold H_herd_b4 M_herd_b9
    rw [P_size_v h.1, Option.bind_some, if_neg hni, hB'.c, if_neg hni, gd_in (by omega) (by omega), gI_of M 7 (by omega), of_s]
    show ∃ r : Int64, (if M.1 7 b = 0 then _ else _) = some r ∧ M_herd_L20 (M_herd_L9 F') 64 s (Int32.ofNat b) (Int32.ofNat 0) M' = some (r, M')
    rcases al_cases h hbn g with ⟨h1, h2⟩ | ⟨h1, h2⟩
    · rw [h1, if_neg (by decide)]
      obtain ⟨r, hr⟩ := twin_kin h g hbn (M_herd_L9 F') h2 (b + 1) 0 64 64 (by omega) (by omega) (by omega)
      unfold H_kinWithLivingUpTo
      show ∃ r : Int64, Option.bind (H_kinWithLivingUpTo_L5 M 64 (Int32.ofNat b) 0 (Int32.ofNat 0)) _ = some r ∧ _
      rw [(hr 0 s).1, Option.bind_some, (hr 0 s).2, Int64.zero_add]
      exact ih (b + 1) F F' _ (by omega) (by omega) (by omega)
    · rw [h1, if_pos rfl, dead_kin h g hbn (M_herd_L9 F') h2 s (b + 1) 0 64 (by omega) (by omega)]
      exact ih (b + 1) F F' _ (by omega) (by omega) (by omega)
theorem sim_herd (h : Inv M n) : SimP (H_herd M) (M_herd M) n := by
  have hn := h.1.1
  obtain ⟨r, h1, h2⟩ := twin_herd h (Ag_sF M 0 rfl : Ag M (sF M 4 0)) n 0 64 64 0 (by omega) (by omega) (by omega)
  exact ⟨r, sF M 4 0, h1, h2, Inv_Ag (Ag_sF M 0 rfl) h⟩
theorem kinP_m1 (a : Int32) : P_kinOf M a (-1) = some 0 := by
  unfold P_kinOf
  by_cases h : a = -1
  · rw [if_pos h]
  · rw [if_neg h, if_pos rfl]
theorem twin_planned (h : Inv M n) (g : Ag M M') : ∀ (d i F F' : Nat) (s : Int64), i + d = n → d < F → d < F' → ∃ r : Int64, H_planned_L15 M F s (Int32.ofNat i) = some r ∧ M_planned_L9 F' s (Int32.ofNat i) M' = some ((if M'.2.2.1 6 = 0 then -1 else r), M') := by
  have hn := h.1.1
  have hB' := IB_Ag g h
  intro d
  induction d with
  | zero =>
    intro i F F' s hi hF hF'
    obtain ⟨F, rfl⟩ := succ_of hF
    obtain ⟨F', rfl⟩ := succ_of hF'
    have hi2 : i = n := by omega
    subst hi2
    refine ⟨s, ?_, ?_⟩
    · show H_planned_b15 _ _ _ _ = _
      unfold H_planned_b15
      rw [P_size_v h.1, Option.bind_some, if_pos (Int32.le_refl _)]
    · show M_planned_b9 _ _ _ _ = _
      unfold M_planned_b9
      rw [hB'.c, if_pos (Int32.le_refl _)]
      show (if M'.2.2.1 6 = 0 then _ else _) = _
      by_cases hx : M'.2.2.1 6 = 0
      · rw [if_pos hx, if_pos hx]
      · rw [if_neg hx, if_neg hx]
  | succ d ih =>
    intro i F F' s hi hF hF'
    obtain ⟨F, rfl⟩ := succ_of hF
    obtain ⟨F', rfl⟩ := succ_of hF'
    have hni : ¬ Int32.ofNat n ≤ Int32.ofNat i := by rw [of_le (by omega) (by omega)]; omega
    have hin : i < n := by omega
    obtain ⟨j1, j2⟩ := h.2.2.2.2.2.2.2.1 i (by omega)
    have hJ : M'.1 19 i = M.1 8 i := by rw [g.1 19 rfl]; exact j1
    show ∃ r : Int64, H_planned_b15 M (H_planned_L15 M F) s (Int32.ofNat i) = some r ∧ M_planned_b9 (M_planned_L9 F') s (Int32.ofNat i) M' = some ((if M'.2.2.1 6 = 0 then -1 else r), M')
    unfold H_planned_b15 M_planned_b9
    rw [P_size_v h.1, Option.bind_some, if_neg hni, hB'.c, if_neg hni, gd_in (by omega) (by omega), gd_in (by omega) (by omega), gd_in (by omega) (by omega), gI_of M 8 (by omega), gI_of M' 19 (by omega), of_s, hJ]
    rcases j2 with j2 | ⟨k, hk, j2⟩
    · rw [j2, kinP_m1, Option.bind_some, Int64.add_zero, if_neg (by decide)]
      exact ih (i + 1) F F' _ (by omega) (by omega) (by omega)
    · rw [j2, kinP h.1 h.2.2.2.2.1 hin hk, Option.bind_some, if_pos (of_0le (by omega)), kinM' h g hin hk, Option.bind_some]
      exact ih (i + 1) F F' _ (by omega) (by omega) (by omega)
theorem sim_planned (h : Inv M n) : SimP (H_planned M) (M_planned M) n := by
  have hn := h.1.1
  obtain ⟨r, h1, h2⟩ := twin_planned h (Ag_sF M 0 rfl : Ag M (sF M 4 0)) n 0 64 64 0 (by omega) (by omega) (by omega)
  have hJ := h.2.2.2.2.2.2.2.2
  have e6 : (sF M 4 0).2.2.1 6 = M.2.2.1 6 := rfl
  rw [e6] at h2
  have hM : M_planned M = M_planned_L9 64 0 (Int32.ofNat 0) (sF M 4 0) := rfl
  rcases hJ with ⟨j1, j2⟩ | ⟨j1, j2⟩
  · refine ⟨-1, sF M 4 0, ?_, ?_, Inv_Ag (Ag_sF M 0 rfl) h⟩
    · unfold H_planned
      show (if M.2.2.1 1 = 0 then _ else _) = _
      rw [if_pos j1]
    · rw [hM, h2, if_pos j2]
  · refine ⟨r, sF M 4 0, ?_, ?_, Inv_Ag (Ag_sF M 0 rfl) h⟩
    · unfold H_planned
      show (if M.2.2.1 1 = 0 then _ else H_planned_L15 M 64 0 (Int32.ofNat 0)) = _
      rw [if_neg (by rw [j1]; decide), h1]
    · rw [hM, h2, if_neg (by rw [j2]; decide)]
theorem twin_count (hs : gF M 0 = Int32.ofNat n) (hc : gF M' 5 = Int32.ofNat n) (hn : n ≤ 24) (hal : ∀ i, i < n → (M.1 7 i = 1 ∧ M'.1 16 i = 0) ∨ (M.1 7 i = 0 ∧ M'.1 16 i = 1)) : ∀ (d i F F' : Nat) (c : Int32), i + d = n → d < F → d < F' → ∃ r : Int32, H_countLiving_L4 M F c (Int32.ofNat i) = some r ∧ M_cull_L57 F' c (Int32.ofNat i) M' = some (r, M') := by
  intro d
  induction d with
  | zero =>
    intro i F F' c hi hF hF'
    obtain ⟨F, rfl⟩ := succ_of hF
    obtain ⟨F', rfl⟩ := succ_of hF'
    have hi2 : i = n := by omega
    subst hi2
    refine ⟨c, ?_, ?_⟩
    · show H_countLiving_b4 _ _ _ _ = _
      unfold H_countLiving_b4 P_size
      rw [hs, Option.bind_some, if_pos (Int32.le_refl _)]
    · show M_cull_b57 _ _ _ _ = _
      unfold M_cull_b57
      rw [hc, if_pos (Int32.le_refl _)]
  | succ d ih =>
    intro i F F' c hi hF hF'
    obtain ⟨F, rfl⟩ := succ_of hF
    obtain ⟨F', rfl⟩ := succ_of hF'
    have hni : ¬ Int32.ofNat n ≤ Int32.ofNat i := by rw [of_le (by omega) (by omega)]; omega
    show ∃ r : Int32, H_countLiving_b4 M (H_countLiving_L4 M F) c (Int32.ofNat i) = some r ∧ M_cull_b57 (M_cull_L57 F') c (Int32.ofNat i) M' = some (r, M')
    unfold H_countLiving_b4 M_cull_b57 P_size
    rw [hs, Option.bind_some, if_neg hni, hc, if_neg hni, gd_in (by omega) (by omega), gd_in (by omega) (by omega), gI_of M 7 (by omega), gI_of M' 16 (by omega), of_s]
    rcases hal i (by omega) with ⟨h1, h2⟩ | ⟨h1, h2⟩
    · rw [h1, h2, if_neg (by decide), if_pos rfl]
      exact ih (i + 1) F F' _ (by omega) (by omega) (by omega)
    · rw [h1, h2, if_pos rfl, if_neg (by decide)]
      exact ih (i + 1) F F' _ (by omega) (by omega) (by omega)
theorem Inv_live {k : Nat} (h : Inv M n) (hk : k < n) {r : Int64} : Inv (sZ (sF (sL (sZ M 7 (Int32.ofNat k) 0) 7 0 r) 4 0) 16 (Int32.ofNat k) 1) n := by
  obtain ⟨hB, hA, hP, hL, hK, hI, hD, hJ⟩ := h
  have hn := hB.1
  have hk2 : (Int32.ofNat k).toNatClampNeg = k := of_cl (by omega)
  have g : Inv (sZ (sF (sL (sZ M 7 (Int32.ofNat k) 0) 7 0 r) 4 0) 16 (Int32.ofNat k) 1) n ↔ Inv (sZ (sF (sL (sZ M 7 (Int32.ofNat k) 0) 7 0 r) 4 0) 16 (Int32.ofNat k) 1) n := Iff.rfl
  refine ⟨hB, hA, hP, ?_, ?_, hI, hD, hJ⟩
  · have e7 : ∀ i, (sZ (sF (sL (sZ M 7 (Int32.ofNat k) 0) 7 0 r) 4 0) 16 (Int32.ofNat k) 1).1 7 i = if i = k then 0 else M.1 7 i := fun i => by
      show (sZ M 7 (Int32.ofNat k) 0).1 7 i = _
      rw [sZ_1, hk2]
      by_cases hx : i = k
      · rw [if_pos ⟨rfl, hx⟩, if_pos hx, nz_false]
      · rw [if_neg (fun q => hx q.2), if_neg hx]
    have e16 : ∀ i, (sZ (sF (sL (sZ M 7 (Int32.ofNat k) 0) 7 0 r) 4 0) 16 (Int32.ofNat k) 1).1 16 i = if i = k then 1 else M.1 16 i := fun i => by
      rw [sZ_1, hk2]
      by_cases hx : i = k
      · rw [if_pos ⟨rfl, hx⟩, if_pos hx, nz_true]
      · rw [if_neg (fun q => hx q.2), if_neg hx]; rfl
    refine ⟨fun i hi => ?_, fun i h1 h2 => ?_⟩
    · rw [e7, e16]
      by_cases hx : i = k
      · rw [if_pos hx, if_pos hx]; exact Or.inr ⟨rfl, rfl⟩
      · rw [if_neg hx, if_neg hx]; exact hL.1 i hi
    · rw [e16, if_neg (by omega)]; exact hL.2 i h1 h2
  · intro a b ha hb
    have e : (sZ (sF (sL (sZ M 7 (Int32.ofNat k) 0) 7 0 r) 4 0) 16 (Int32.ofNat k) 1).2.1 (8 + a) = M.2.1 (8 + a) := if_neg (by omega)
    rw [e]
    exact hK a b ha hb
theorem sim_cull (h : Inv M n) (a : Int32) : SimI (L_cull M a) (fun M1 => M_cull M1 a) n := by
  have hn := h.1.1
  rcases isA_cases n hn a with ⟨k, hk, rfl⟩ | ha
  · have hk2 : (Int32.ofNat k).toNatClampNeg = k := of_cl (by omega)
    rcases al_cases h hk (Ag_rf M) with ⟨h1, h2⟩ | ⟨h1, h2⟩
    · have hal : ∀ r : Int64, ∀ i, i < n → ((sZ M 7 (Int32.ofNat k) 0).1 7 i = 1 ∧ (sZ (sF (sL (sZ M 7 (Int32.ofNat k) 0) 7 0 r) 4 0) 16 (Int32.ofNat k) 1).1 16 i = 0) ∨ ((sZ M 7 (Int32.ofNat k) 0).1 7 i = 0 ∧ (sZ (sF (sL (sZ M 7 (Int32.ofNat k) 0) 7 0 r) 4 0) 16 (Int32.ofNat k) 1).1 16 i = 1) := fun r i hi => (Inv_live h hk).2.2.2.1.1 i hi
      obtain ⟨r, q1, -⟩ := twin_count (M := sZ M 7 (Int32.ofNat k) 0) (M' := sZ (sF (sL (sZ M 7 (Int32.ofNat k) 0) 7 0 0) 4 0) 16 (Int32.ofNat k) 1) (n := n) h.1.s h.1.c hn (hal 0) n 0 64 64 0 (by omega) (by omega) (by omega)
      obtain ⟨r2, q2, q3⟩ := twin_count (M := sZ M 7 (Int32.ofNat k) 0) (M' := sZ (sF (sL (sZ M 7 (Int32.ofNat k) 0) 7 0 r.toInt64) 4 0) 16 (Int32.ofNat k) 1) (n := n) h.1.s h.1.c hn (hal r.toInt64) n 0 64 64 0 (by omega) (by omega) (by omega)
      rw [q1] at q2
      cases q2
      refine simI_ok (Mx := sZ M 7 (Int32.ofNat k) 0) (r := r) (M2 := sZ (sF (sL (sZ M 7 (Int32.ofNat k) 0) 7 0 r.toInt64) 4 0) 16 (Int32.ofNat k) 1) ?_ ?_ rfl rfl (Inv_live h hk)
      · unfold L_cull H_cull
        rw [reqA_ok h.1 hk, thrP_ok, gd_in (by omega) (by omega), gI_of M 7 (by omega), h1, if_neg (by decide), gd_in (by omega) (by omega)]
        unfold H_countLiving
        show ab_thrW (Option.bind (H_countLiving_L4 (sZ M 7 (Int32.ofNat k) 0) 64 0 (Int32.ofNat 0)) _) _ _ = _
        rw [q1]
        rfl
      · show M_cull _ _ = _
        have hB : IB (sL (sZ M 7 (Int32.ofNat k) 0) 7 0 r.toInt64) n := h.1
        have hd : (sL (sZ M 7 (Int32.ofNat k) 0) 7 0 r.toInt64).1 16 k = 0 := h2
        unfold M_cull M_cull_c14 M_cull_c36
        rw [is_ok hB hk, Option.bind_some, if_neg (by decide), Option.bind_some, if_neg (by decide), gd_in (by omega) (by omega), gI_of _ 16 (by omega), hd, if_pos rfl, refused_0, Option.bind_some, if_pos rfl, gd_in (by omega) (by omega)]
        exact q3
    · refine simI_er 2 h ?_ ?_ (by decide)
      · unfold L_cull H_cull
        rw [reqA_ok h.1 hk, thrP_ok, gd_in (by omega) (by omega), gI_of M 7 (by omega), h1, if_pos rfl]
        rfl
      · show M_cull _ _ = _
        unfold M_cull M_cull_c14 M_cull_c36
        rw [is_ok h.1 hk, Option.bind_some, if_neg (by decide), Option.bind_some, if_neg (by decide), gd_in (by omega) (by omega), gI_of _ 16 (by omega), h2, if_neg (by decide), refused_2]
        rfl
  · refine simI_er 1 h ?_ ?_ (by decide)
    · unfold L_cull H_cull
      rw [reqA_no h.1 ha]
      rfl
    · show M_cull _ _ = _
      unfold M_cull M_cull_c14 M_cull_c36
      rw [is_no h.1 ha, Option.bind_some, if_pos rfl, Option.bind_some, if_pos rfl, refused_1]
      rfl
end SIM2
