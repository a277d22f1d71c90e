/-! class against reference, call by call: those that read alone -/
theorem thrP_ok {α β : Type} {v : α} {f : α → Option β} {g : String → Option β} : ab_thrP (some (.ok v)) f g = f v := rfl
theorem thrP_er {α β : Type} {E : String} {f : α → Option β} {g : String → Option β} : ab_thrP (some (.error E)) f g = g E := rfl
theorem thrW_ok {α β : Type} {v : α} {M : Me} {f : α → Me → Option β} {g : String → Me → Option β} : ab_thrW (some (.ok v, M)) f g = f v M := rfl
theorem thrW_er {α β : Type} {E : String} {M : Me} {f : α → Me → Option β} {g : String → Me → Option β} : ab_thrW (some (.error E, M)) f g = g E M := rfl
theorem gd_01 {α : Type} (x : Option α) : gd (inb 0 1) x = x := rfl
/-- the class's call and the reference's give the same; what both keep is kept -/
def SimL (lx : Option (Int32 × Me)) (mx : Me → Option (Int64 × Me)) (n' : Nat) : Prop := ∃ (t : Int32) (M1 : Me) (b : Int64) (M2 : Me), lx = some (t, M1) ∧ mx M1 = some (b, M2) ∧ gF M2 4 = t ∧ (t = 0 → gL M2 7 0 = b) ∧ Inv M2 n'
def SimI (lx : Option (Int32 × Me)) (mx : Me → Option (Int32 × Me)) (n' : Nat) : Prop := ∃ (t : Int32) (M1 : Me) (b : Int32) (M2 : Me), lx = some (t, M1) ∧ mx M1 = some (b, M2) ∧ gF M2 4 = t ∧ (t = 0 → gL M2 7 0 = b.toInt64) ∧ Inv M2 n'
section SIM
variable {M : Me} {n : Nat}
theorem simL_er {lx : Option (Int32 × Me)} {mx : Me → Option (Int64 × Me)} (t : Int32) (h : Inv M n) (h1 : lx = some (t, M)) (h2 : mx M = some (0, sF M 4 t)) (ht : ¬ t = 0) : SimL lx mx n := ⟨t, M, 0, sF M 4 t, h1, h2, rfl, fun h => absurd h ht, Inv_Ag (Ag_sF M t rfl) h⟩
theorem simI_er {lx : Option (Int32 × Me)} {mx : Me → Option (Int32 × Me)} (t : Int32) (h : Inv M n) (h1 : lx = some (t, M)) (h2 : mx M = some (0, sF M 4 t)) (ht : ¬ t = 0) : SimI lx mx n := ⟨t, M, 0, sF M 4 t, h1, h2, rfl, fun h => absurd h ht, Inv_Ag (Ag_sF M t rfl) h⟩
theorem simL_ok {lx : Option (Int32 × Me)} {mx : Me → Option (Int64 × Me)} {n' : Nat} {Mx M2 : Me} {r : Int64} (h1 : lx = some (0, sL Mx 7 0 r)) (h2 : mx (sL Mx 7 0 r) = some (r, M2)) (h4 : M2.2.2.1 4 = 0) (h7 : M2.2.1 7 = (sL Mx 7 0 r).2.1 7) (hI : Inv M2 n') : SimL lx mx n' := by
  refine ⟨0, sL Mx 7 0 r, r, M2, h1, h2, h4, fun _ => ?_, hI⟩
  unfold gL
  rw [h7]
  rfl
theorem simI_ok {lx : Option (Int32 × Me)} {mx : Me → Option (Int32 × Me)} {n' : Nat} {Mx M2 : Me} {r : Int32} (h1 : lx = some (0, sL Mx 7 0 r.toInt64)) (h2 : mx (sL Mx 7 0 r.toInt64) = some (r, M2)) (h4 : M2.2.2.1 4 = 0) (h7 : M2.2.1 7 = (sL Mx 7 0 r.toInt64).2.1 7) (hI : Inv M2 n') : SimI lx mx n' := by
  refine ⟨0, sL Mx 7 0 r.toInt64, r, M2, h1, h2, h4, fun _ => ?_, hI⟩
  unfold gL
  rw [h7]
  rfl
/-- the reference's memory behind an answer r and 'nothing is refused' -/
theorem Ag_70 (M : Me) (r : Int64) : Ag M (sF (sL M 7 0 r) 4 0) := Ag_tr (Ag_sL M 0 r rfl) (Ag_sF _ 0 rfl)
theorem Ag_7 (M : Me) (r : Int64) : Ag M (sL M 7 0 r) := Ag_sL M 0 r rfl
theorem IB_Ag {M M' : Me} {n : Nat} (g : Ag M M') (h : Inv M n) : IB M' n := (Inv_Ag g h).1
theorem kinM' {M' : Me} {a b : Nat} (h : Inv M n) (g : Ag M M') (ha : a < n) (hb : b < n) : M_kinOf M' (Int32.ofNat a) (Int32.ofNat b) = some (Kt (M.1 0) (M.1 1) n a b) := by
  have hI := Inv_Ag g h
  rw [kinM hI.1 hI.2.2.2.2.1 ha hb, g.1 0 rfl, g.1 1 rfl]
theorem sim_kinship (h : Inv M n) (a b : Int32) : SimL (L_kinship M a b) (fun M1 => M_kinship M1 a b) n := by
  have hn := h.1.1
  have e4 : IB (sF M 4 1) n := IB_Ag (Ag_sF M 1 rfl) h
  rcases isA_cases n hn a with ⟨i, hi, rfl⟩ | ha
  · rcases isA_cases n hn b with ⟨j, hj, rfl⟩ | hb
    · have g := Ag_7 M (Kt (M.1 0) (M.1 1) n i j)
      have hB := IB_Ag g h
      refine simL_ok (Mx := M) (r := Kt (M.1 0) (M.1 1) n i j) (M2 := sF (sL M 7 0 (Kt (M.1 0) (M.1 1) n i j)) 4 0) ?_ ?_ rfl rfl (Inv_Ag (Ag_70 M _) h)
      · unfold L_kinship H_kinship
        rw [reqA_ok h.1 hi, thrP_ok, reqA_ok h.1 hj, thrP_ok, kinP h.1 h.2.2.2.2.1 hi hj]
        rfl
      · show M_kinship _ _ _ = _
        unfold M_kinship M_kinship_c22
        rw [is_ok hB hi, Option.bind_some, if_neg (by decide), is_ok hB hj, Option.bind_some, if_neg (by decide), refused_0, Option.bind_some, if_pos rfl]
        show Option.bind (M_kinOf (sF (sL M 7 0 _) 4 0) _ _) _ = _
        rw [kinM' h (Ag_70 M _) hi hj]
        rfl
    · refine simL_er 1 h ?_ ?_ (by decide)
      · unfold L_kinship H_kinship
        rw [reqA_ok h.1 hi, thrP_ok, reqA_no h.1 hb]
        rfl
      · show M_kinship _ _ _ = _
        unfold M_kinship M_kinship_c22
        rw [is_ok h.1 hi, Option.bind_some, if_neg (by decide), is_no h.1 hb, Option.bind_some, if_pos rfl, refused_1]
        rfl
  · refine simL_er 1 h ?_ ?_ (by decide)
    · unfold L_kinship H_kinship
      rw [reqA_no h.1 ha]
      rfl
    · show M_kinship _ _ _ = _
      unfold M_kinship M_kinship_c22
      rw [is_no h.1 ha, Option.bind_some, if_pos rfl, refused_1]
      rfl
theorem sim_calf (h : Inv M n) (a b : Int32) : SimL (L_calf M a b) (fun M1 => M_calf M1 a b) n := by
  have hn := h.1.1
  rcases isA_cases n hn a with ⟨i, hi, rfl⟩ | ha
  · rcases isA_cases n hn b with ⟨j, hj, rfl⟩ | hb
    · have g := Ag_7 M (Kt (M.1 0) (M.1 1) n i j)
      have hB := IB_Ag g h
      refine simL_ok (Mx := M) (r := Kt (M.1 0) (M.1 1) n i j) (M2 := sF (sL M 7 0 (Kt (M.1 0) (M.1 1) n i j)) 4 0) ?_ ?_ rfl rfl (Inv_Ag (Ag_70 M _) h)
      · unfold L_calf H_calf
        rw [reqA_ok h.1 hi, thrP_ok, reqA_ok h.1 hj, thrP_ok, kinP h.1 h.2.2.2.2.1 hi hj]
        rfl
      · show M_calf _ _ _ = _
        unfold M_calf M_calf_c22
        rw [is_ok hB hi, Option.bind_some, if_neg (by decide), is_ok hB hj, Option.bind_some, if_neg (by decide), refused_0, Option.bind_some, if_pos rfl]
        show Option.bind (M_kinOf (sF (sL M 7 0 _) 4 0) _ _) _ = _
        rw [kinM' h (Ag_70 M _) hi hj]
        rfl
    · refine simL_er 1 h ?_ ?_ (by decide)
      · unfold L_calf H_calf
        rw [reqA_ok h.1 hi, thrP_ok, reqA_no h.1 hb]
        rfl
      · show M_calf _ _ _ = _
        unfold M_calf M_calf_c22
        rw [is_ok h.1 hi, Option.bind_some, if_neg (by decide), is_no h.1 hb, Option.bind_some, if_pos rfl, refused_1]
        rfl
  · refine simL_er 1 h ?_ ?_ (by decide)
    · unfold L_calf H_calf
      rw [reqA_no h.1 ha]
      rfl
    · show M_calf _ _ _ = _
      unfold M_calf M_calf_c22
      rw [is_no h.1 ha, Option.bind_some, if_pos rfl, refused_1]
      rfl
theorem sim_inbreeding (h : Inv M n) (a : Int32) : SimL (L_inbreeding M a) (fun M1 => M_inbreeding M1 a) n := by
  have hn := h.1.1
  rcases isA_cases n hn a with ⟨i, hi, rfl⟩ | ha
  · have hII := h.2.2.2.2.2.1 i hi
    have hB := IB_Ag (Ag_7 M (M.2.1 0 i)) h
    refine simL_ok (Mx := M) (r := M.2.1 0 i) (M2 := sF (sL M 7 0 (M.2.1 0 i)) 4 0) ?_ ?_ rfl rfl (Inv_Ag (Ag_70 M _) h)
    · unfold L_inbreeding H_inbreeding P_inbreedingOf
      rw [reqA_ok h.1 hi, thrP_ok, gd_in (by omega) (by omega), gL_of M 0 (by omega)]
      rfl
    · show M_inbreeding _ _ = _
      unfold M_inbreeding M_inbreeding_c14
      rw [is_ok hB hi, Option.bind_some, if_neg (by decide), refused_0, Option.bind_some, if_pos rfl, gd_in (by omega) (by omega), gL_of _ 5 (by omega)]
      show some (M.2.1 5 i, _) = _
      rw [hII.1, hII.2]
  · refine simL_er 1 h ?_ ?_ (by decide)
    · unfold L_inbreeding H_inbreeding
      rw [reqA_no h.1 ha]
      rfl
    · show M_inbreeding _ _ = _
      unfold M_inbreeding M_inbreeding_c14
      rw [is_no h.1 ha, Option.bind_some, if_pos rfl, refused_1]
      rfl
theorem sim_bull (h : Inv M n) (a : Int32) : SimI (L_bull M a) (fun M1 => M_bull M1 a) n := by
  have hn := h.1.1
  rcases isA_cases n hn a with ⟨i, hi, rfl⟩ | ha
  · have hJ := (h.2.2.2.2.2.2.2.1 i (by omega)).1
    have hB := IB_Ag (Ag_7 M (M.1 8 i).toInt64) h
    refine simI_ok (Mx := M) (r := M.1 8 i) (M2 := sF (sL M 7 0 (M.1 8 i).toInt64) 4 0) ?_ ?_ rfl rfl (Inv_Ag (Ag_70 M _) h)
    · unfold L_bull H_bull
      rw [reqA_ok h.1 hi, thrP_ok, gd_in (by omega) (by omega), gI_of M 8 (by omega)]
      rfl
    · show M_bull _ _ = _
      unfold M_bull M_bull_c14
      rw [is_ok hB hi, Option.bind_some, if_neg (by decide), refused_0, Option.bind_some, if_pos rfl, gd_in (by omega) (by omega), gI_of _ 19 (by omega)]
      show some (M.1 19 i, _) = _
      rw [hJ]
  · refine simI_er 1 h ?_ ?_ (by decide)
    · unfold L_bull H_bull
      rw [reqA_no h.1 ha]
      rfl
    · show M_bull _ _ = _
      unfold M_bull M_bull_c14
      rw [is_no h.1 ha, Option.bind_some, if_pos rfl, refused_1]
      rfl
/-! loops over all animals, both sides at once -/
theorem al_cases (h : Inv M n) {i : Nat} (hi : i < n) {M' : Me} (g : Ag M M') : (M.1 7 i = 1 ∧ M'.1 16 i = 0) ∨ (M.1 7 i = 0 ∧ M'.1 16 i = 1) := by
  rw [g.1 16 rfl]
  exact h.2.2.2.1.1 i hi
theorem twin_closest {M' : Me} (h : Inv M n) (g : Ag M M') {a : Nat} (ha : a < n) : ∀ (d i F F' : Nat) (c : Int32), i + d = n → d < F → d < F' → par c i → ∃ r : Int32, H_closest_L9 M F (Int32.ofNat a) c (Int32.ofNat i) = some (.ok r) ∧ M_closest_L29 F' (Int32.ofNat a) c (Int32.ofNat i) M' = some (r, M') := by
  have hn := h.1.1
  have hB' := IB_Ag g h
  intro d
  induction d with
  | zero =>
    intro i F F' c hi hF hF' hc
    obtain ⟨F, rfl⟩ : ∃ G, F = G + 1 := ⟨F - 1, by omega⟩
    obtain ⟨F', rfl⟩ : ∃ G, F' = G + 1 := ⟨F' - 1, by omega⟩
    have hi2 : i = n := by omega
    subst hi2
    refine ⟨c, ?_, ?_⟩
    · show H_closest_b9 _ _ _ _ _ = _
      unfold H_closest_b9
      rw [P_size_v h.1, Option.bind_some, if_pos (Int32.le_refl _)]
    · show M_closest_b29 _ _ _ _ _ = _
      unfold M_closest_b29
      rw [hB'.c, if_pos (Int32.le_refl _)]
  | succ d ih =>
    intro i F F' c hi hF hF' hc
    obtain ⟨F, rfl⟩ : ∃ G, F = G + 1 := ⟨F - 1, by omega⟩
    obtain ⟨F', rfl⟩ : ∃ G, F' = G + 1 := ⟨F' - 1, by omega⟩
    have hni : ¬ Int32.ofNat n ≤ Int32.ofNat i := by rw [of_le (by omega) (by omega)]; omega
    have hc' : par c (i + 1) := by
      rcases hc with hc | ⟨k, hk, hc⟩
      · exact Or.inl hc
      · exact Or.inr ⟨k, by omega, hc⟩
    have hi' : par (Int32.ofNat i) (i + 1) := Or.inr ⟨i, by omega, rfl⟩
    have e1 : ∀ r, H_closest_L9 M (F + 1) (Int32.ofNat a) c (Int32.ofNat i) = r ↔ H_closest_b9 M (H_closest_L9 M F) (Int32.ofNat a) c (Int32.ofNat i) = r := fun r => Iff.rfl
    show ∃ r : Int32, H_closest_b9 M (H_closest_L9 M F) (Int32.ofNat a) c (Int32.ofNat i) = some (.ok r) ∧ M_closest_b29 (M_closest_L29 F') (Int32.ofNat a) c (Int32.ofNat i) M' = some (r, M')
    unfold H_closest_b9 M_closest_b29
    rw [P_size_v h.1, Option.bind_some, if_neg hni, hB'.c, if_neg hni, of_s]
    by_cases hia : Int32.ofNat i = Int32.ofNat a
    · rw [if_pos hia, if_pos hia]
      exact ih (i + 1) F F' c (by omega) (by omega) (by omega) hc'
    · rw [if_neg hia, if_neg hia, gd_in (by omega) (by omega), gd_in (by omega) (by omega), gI_of M 7 (by omega), gI_of M' 16 (by omega)]
      rcases al_cases h (show i < n by omega) g with ⟨h1, h2⟩ | ⟨h1, h2⟩
      · rw [h1, h2, if_neg (by decide), if_pos rfl]
        rcases hc with hc | ⟨k, hk, hc⟩
        · rw [if_pos hc, if_pos (by rw [hc]; decide)]
          exact ih (i + 1) F F' _ (by omega) (by omega) (by omega) hi'
        · subst hc
          rw [if_neg (of_nm1 (by omega)), if_neg (of_nlt0 (by omega)), kinP h.1 h.2.2.2.2.1 ha (by omega), Option.bind_some, kinP h.1 h.2.2.2.2.1 ha (by omega), Option.bind_some, kinM' h g ha (by omega), Option.bind_some, kinM' h g ha (by omega), Option.bind_some]
          by_cases hk2 : Kt (M.1 0) (M.1 1) n a i ≤ Kt (M.1 0) (M.1 1) n a k
          · rw [if_pos hk2, if_pos hk2]
            exact ih (i + 1) F F' _ (by omega) (by omega) (by omega) hc'
          · rw [if_neg hk2, if_neg hk2]
            exact ih (i + 1) F F' _ (by omega) (by omega) (by omega) hi'
      · rw [h1, h2, if_pos rfl, if_neg (by decide)]
        exact ih (i + 1) F F' c (by omega) (by omega) (by omega) hc'
theorem sim_closest (h : Inv M n) (a : Int32) : SimI (L_closest M a) (fun M1 => M_closest M1 a) n := by
  have hn := h.1.1
  rcases isA_cases n hn a with ⟨i, hi, rfl⟩ | ha
  · obtain ⟨r, h1, -⟩ := twin_closest h (Ag_rf M) hi n 0 64 64 (-1) (by omega) (by omega) (by omega) (Or.inl rfl)
    obtain ⟨r2, h2, h3⟩ := twin_closest h (Ag_70 M r.toInt64) hi n 0 64 64 (-1) (by omega) (by omega) (by omega) (Or.inl rfl)
    rw [h1] at h2
    cases h2
    have hB := IB_Ag (Ag_7 M r.toInt64) h
    refine simI_ok (Mx := M) (r := r) (M2 := sF (sL M 7 0 r.toInt64) 4 0) ?_ ?_ rfl rfl (Inv_Ag (Ag_70 M _) h)
    · unfold L_closest H_closest
      rw [reqA_ok h.1 hi, thrP_ok]
      show ab_thrP (H_closest_L9 M 64 (Int32.ofNat i) (-1) (Int32.ofNat 0)) _ _ = _
      rw [h1]
      rfl
    · show M_closest _ _ = _
      unfold M_closest M_closest_c14
      rw [is_ok hB hi, Option.bind_some, if_neg (by decide), refused_0, Option.bind_some, if_pos rfl]
      exact h3
  · refine simI_er 1 h ?_ ?_ (by decide)
    · unfold L_closest H_closest
      rw [reqA_no h.1 ha]
      rfl
    · show M_closest _ _ = _
      unfold M_closest M_closest_c14
      rw [is_no h.1 ha, Option.bind_some, if_pos rfl, refused_1]
      rfl
end SIM
