/-! plan: what is refused, and the class's and the reference's roads -/
section PLAN2
variable {n : Nat}
def Fz (M M' : Me) : Prop := (∀ a, scI a = false → ¬ a = 8 → ¬ a = 19 → M'.1 a = M.1 a) ∧ (∀ a, scL a = false → M'.2.1 a = M.2.1 a) ∧ ∀ a, scF a = false → ¬ a = 1 → ¬ a = 6 → M'.2.2.1 a = M.2.2.1 a
theorem Fz_tr {M M' M'' : Me} (h : Fz M M') (h' : Fz M' M'') : Fz M M'' := ⟨fun a x y z => (h'.1 a x y z).trans (h.1 a x y z), fun a x => (h'.2.1 a x).trans (h.2.1 a x), fun a x y z => (h'.2.2 a x y z).trans (h.2.2 a x y z)⟩
theorem Fz_Ag {M M' : Me} (h : Ag M M') : Fz M M' := ⟨fun a x _ _ => h.1 a x, h.2.1, fun a x _ _ => h.2.2 a x⟩
theorem Fz_FrB {M M' : Me} (h : FrB M M') : Fz M M' := ⟨fun a x _ _ => h.1 a (fun q => by rw [q] at x; exact absurd x (by decide)) (fun q => by rw [q] at x; exact absurd x (by decide)), fun a x => h.2.1 a (fun q => by rw [q] at x; exact absurd x (by decide)) (fun q => by rw [q] at x; exact absurd x (by decide)), fun a _ _ _ => by rw [h.2.2]⟩
theorem Fz_FrS {M M' : Me} (h : FrS M M') : Fz M M' := ⟨fun a x _ _ => h.1 a (fun q => by rw [q] at x; exact absurd x (by decide)) (fun q => by rw [q] at x; exact absurd x (by decide)) (fun q => by rw [q] at x; exact absurd x (by decide)), fun a _ => by rw [h.2], fun a _ _ _ => by rw [h.2]⟩
theorem Inv_Fz {M M' : Me} (h : Inv M n) (g : Fz M M') (hJ : IJ M' n) : Inv M' n := by
  obtain ⟨g1, g2, g3⟩ := g
  have e0 := g1 0 rfl (by decide) (by decide)
  have e1 := g1 1 rfl (by decide) (by decide)
  have e2 := g1 2 rfl (by decide) (by decide)
  have e3 := g1 3 rfl (by decide) (by decide)
  have e5 := g1 5 rfl (by decide) (by decide)
  have e6 := g1 6 rfl (by decide) (by decide)
  have e7 := g1 7 rfl (by decide) (by decide)
  have e12 := g1 12 rfl (by decide) (by decide)
  have e13 := g1 13 rfl (by decide) (by decide)
  have e14 := g1 14 rfl (by decide) (by decide)
  have e15 := g1 15 rfl (by decide) (by decide)
  have e16 := g1 16 rfl (by decide) (by decide)
  have l0 := g2 0 rfl
  have l4 := g2 4 rfl
  have l5 := g2 5 rfl
  have f0 := g3 0 rfl (by decide) (by decide)
  have f5 := g3 5 rfl (by decide) (by decide)
  have lr : ∀ a, M'.2.1 (8 + a) = M.2.1 (8 + a) := fun a => g2 _ (scL_row a)
  obtain ⟨hB, hA, hP, hL, hK, hI, hD, -⟩ := h
  refine ⟨?_, ?_, ?_, ?_, ?_, ?_, ?_, hJ⟩
  · unfold IB at hB ⊢; rw [f0, f5]; exact hB
  · unfold IA at hA ⊢; rw [e0, e1, e5, e6, e12, e13, e14, e15]; exact hA
  · unfold IP at hP ⊢; rw [e0, e1]; exact hP
  · unfold IL at hL ⊢; rw [e7, e16]; exact hL
  · unfold IK at hK ⊢; rw [e0, e1, l4]; intro a b ha hb; rw [lr a]; exact hK a b ha hb
  · unfold II at hI ⊢; rw [e0, e1, l0, l5]; exact hI
  · unfold ID at hD ⊢; rw [e0, e1, e2, e3]; exact hD
/-! bits beyond the animals -/
theorem bt_shr_hi {x : Int32} {k c : Nat} (hc : c < 32) (hk : k < 32) (h : 32 ≤ c + k) : bt (x >>> (Int32.ofNat c &&& 31)) k = bt x 31 := by
  unfold bt
  rw [Int32.toBitVec_shiftRight]
  show (x.toBitVec.sshiftRight ((Int32.ofNat c &&& 31).toBitVec.smod 32).toNat).getLsbD k = _
  rw [smod_of c (by omega), BitVec.getLsbD_sshiftRight, if_neg (by omega), decide_eq_false (by omega), BitVec.msb_eq_getLsbD_last]
  rfl
theorem z_of {v : Int32} (hn : n ≤ 24) : v >>> (Int32.ofNat n &&& 31) = 0 ↔ ∀ k, n ≤ k → k < 32 → bt v k = false := by
  refine ⟨fun h k h1 h2 => ?_, fun h => bt_ext (fun k hk => ?_)⟩
  · have := bt_shr (x := v) (k := k - n) (c := n) (by omega)
    rw [show n + (k - n) = k by omega, h, bt_0] at this
    exact this.symm
  · rw [bt_0]
    by_cases q : n + k < 32
    · rw [bt_shr q]; exact h _ (by omega) q
    · rw [bt_shr_hi (by omega) hk (by omega)]; exact h 31 (by omega) (by omega)
theorem us_sh : ∀ n, n < 32 → (((Int32.ofNat n).toUInt32 &&& Int32.toUInt32 31).toBitVec % 32).toNat = n := by decide +kernel
theorem u_of {v : Int32} (hn : n ≤ 24) : us (Int32.ofNat n) v = 0 ↔ ∀ k, n ≤ k → k < 32 → bt v k = false := by
  have e : ∀ j, bt (us (Int32.ofNat n) v) j = (nat v).testBit (j + n) := fun j => by
    show (nat (us (Int32.ofNat n) v)).testBit j = _
    rw [nat_us (us_sh n (by omega)), Nat.testBit_div_two_pow]
  refine ⟨fun h k h1 h2 => ?_, fun h => bt_ext (fun k hk => ?_)⟩
  · have := e (k - n)
    rw [h, bt_0, show k - n + n = k by omega] at this
    exact this.symm
  · rw [bt_0, e]
    by_cases q : k + n < 32
    · exact h _ (by omega) q
    · exact Nat.testBit_lt_two_pow (Nat.lt_of_lt_of_le v.toBitVec.isLt (Nat.pow_le_pow_right (by omega) (by omega)))
theorem pos_bt {v : Int32} (h : bt v 31 = false) : 0 ≤ v := by
  have h1 : v.toBitVec.msb = false := by
    rw [BitVec.msb_eq_getLsbD_last]
    exact h
  rw [Int32.le_iff_toInt_le]
  show (0 : Int) ≤ v.toBitVec.toInt
  rw [BitVec.toInt_eq_toNat_of_msb h1]
  omega
/-! refusals -/
def planF (v1 v2 : Int32) (v3 : Int64) (v5 v6 : Int32) (M : Me) : Option (Int64 × Me) := if v2 < (1 : Int32) then (M_plan_c109 v1 v2 v3 v5 v6 M) else (if (8 : Int32) < v2 then (M_plan_c109 v1 v2 v3 v5 v6 M) else (Option.bind (M_bitsOf M v1) (fun r5 => if (5 : Int32) < r5 then (M_plan_c109 v1 v2 v3 v5 v6 M) else (if (0 : Int64) ≤ v3 then (if v6 = (0 : Int32) then (M_plan_c126 v1 v2 v3 (1 : Int32) v5 (0 : Int32) M) else (M_plan_c126 v1 v2 v3 (0 : Int32) v5 (0 : Int32) M)) else (M_plan_c109 v1 v2 v3 v5 v6 M)))))
theorem pc126_1 {v1 v2 s0 s1 : Int32} {v3 : Int64} {M : Me} : M_plan_c126 v1 v2 v3 s0 s1 1 M = some (0, sF M 4 1) := by
  unfold M_plan_c126
  rw [refused_1]
  rfl
theorem pc126_2 {v1 v2 s0 : Int32} {v3 : Int64} {M : Me} : M_plan_c126 v1 v2 v3 s0 1 0 M = some (0, sF M 4 2) := by
  unfold M_plan_c126
  rw [refused_2]
  rfl
theorem pc126_3 {v1 v2 : Int32} {v3 : Int64} {M : Me} : M_plan_c126 v1 v2 v3 1 0 0 M = some (0, sF M 4 3) := by
  unfold M_plan_c126
  rw [refused_3]
  rfl
theorem pc126_0 {v1 v2 : Int32} {v3 : Int64} {M : Me} : M_plan_c126 v1 v2 v3 0 0 0 M = M_plan_L143 64 v1 v2 v3 0 (sF (sF M 4 0) 7 0) := by
  unfold M_plan_c126
  rw [refused_0]
  rfl
theorem pc109 {v1 v2 v5 v6 : Int32} {v3 : Int64} {M : Me} : M_plan_c109 v1 v2 v3 v5 v6 M = some (0, sF M 4 1) := by
  unfold M_plan_c109
  rw [pc126_1, pc126_1, ite_self]
theorem planF_bad {v1 v2 v5 v6 : Int32} {v3 : Int64} {M : Me} (h : v2 < 1 ∨ 8 < v2 ∨ 5 < cwc v1 32 ∨ ¬ 0 ≤ v3) : planF v1 v2 v3 v5 v6 M = some (0, sF M 4 1) := by
  unfold planF
  have hc := cwc_le v1 32
  rw [pc109, bitsOf_v, Option.bind_some]
  by_cases h1 : v2 < 1
  · rw [if_pos h1]
  · rw [if_neg h1]
    by_cases h2 : 8 < v2
    · rw [if_pos h2]
    · rw [if_neg h2]
      by_cases h3 : 5 < cwc v1 32
      · rw [if_pos (show (5 : Int32) < Int32.ofNat (cwc v1 32) from (of_lt (a := 5) (by omega) (by omega)).mpr h3)]
      · rw [if_neg (show ¬ (5 : Int32) < Int32.ofNat (cwc v1 32) from fun q => h3 ((of_lt (a := 5) (by omega) (by omega)).mp q))]
        rw [if_neg (fun q => by rcases h with w | w | w | w <;> contradiction)]
theorem planF_ok {v1 v2 v5 v6 : Int32} {v3 : Int64} {M : Me} (h1 : ¬ v2 < 1) (h2 : ¬ 8 < v2) (h3 : ¬ 5 < cwc v1 32) (h4 : 0 ≤ v3) : planF v1 v2 v3 v5 v6 M = if v6 = 0 then M_plan_c126 v1 v2 v3 1 v5 0 M else M_plan_c126 v1 v2 v3 0 v5 0 M := by
  unfold planF
  have hc := cwc_le v1 32
  rw [bitsOf_v, Option.bind_some, if_neg h1, if_neg h2, if_neg (show ¬ (5 : Int32) < Int32.ofNat (cwc v1 32) from fun q => h3 ((of_lt (a := 5) (by omega) (by omega)).mp q)), if_pos h4]
theorem plan_end {M' : Me} (hc : gF M' 5 = Int32.ofNat n) {v1 v2 v5 v6 : Int32} {v3 : Int64} {F : Nat} : M_plan_L26 (F + 1) v1 v2 v3 v5 v6 (Int32.ofNat n) M' = planF v1 v2 v3 v5 v6 M' := by
  show M_plan_b26 _ _ _ _ _ _ _ _ = _
  unfold M_plan_b26 planF
  rw [hc, if_pos (Int32.le_refl _)]
theorem plan_no {M' : Me} (hn : n ≤ 24) (hc : gF M' 5 = Int32.ofNat n) {v1 v2 v5 : Int32} {v3 : Int64} : ∀ (e i F : Nat), i + e = n → e < F → M_plan_L26 F v1 v2 v3 v5 0 (Int32.ofNat i) M' = planF v1 v2 v3 v5 0 M' := by
  intro e
  induction e with
  | zero =>
    intro i F hi hF
    obtain ⟨F, rfl⟩ := succ_of hF
    have hi2 : i = n := by omega
    subst hi2
    exact plan_end hc
  | succ e ih =>
    intro i F hi hF
    obtain ⟨F, rfl⟩ := succ_of hF
    rw [← ih (i + 1) F (by omega) (by omega)]
    show M_plan_b26 _ _ _ _ _ _ _ _ = _
    unfold M_plan_b26
    rw [hc, if_neg (by rw [of_le (by omega) (by omega)]; omega), if_pos rfl, of_s]
theorem plan_twin {M M' : Me} (h : Inv M n) (hc : gF M' 5 = Int32.ofNat n) (e14 : M'.1 14 = M.1 14) (e16 : M'.1 16 = M.1 16) {v1 v2 : Int32} {v3 : Int64} : ∀ (e i F F' : Nat), i + e = n → e < F → e < F' → (H_requireLivingFemales_L2 M F v1 (Int32.ofNat i) = some (.ok ()) ∧ ∀ v5, M_plan_L26 F' v1 v2 v3 v5 1 (Int32.ofNat i) M' = planF v1 v2 v3 v5 1 M') ∨ (H_requireLivingFemales_L2 M F v1 (Int32.ofNat i) = some (.error "java/lang/UnsupportedOperationException") ∧ ∀ v5, M_plan_L26 F' v1 v2 v3 v5 1 (Int32.ofNat i) M' = planF v1 v2 v3 v5 0 M') := by
  have hn := h.1.1
  intro e
  induction e with
  | zero =>
    intro i F F' hi hF hF'
    obtain ⟨F, rfl⟩ := succ_of hF
    obtain ⟨F', rfl⟩ := succ_of hF'
    have hi2 : i = n := by omega
    subst hi2
    refine Or.inl ⟨?_, fun v5 => plan_end hc⟩
    show H_requireLivingFemales_b2 _ _ _ _ = _
    unfold H_requireLivingFemales_b2
    rw [P_size_v h.1, Option.bind_some, if_pos (Int32.le_refl _)]
  | succ e ih =>
    intro i F F' hi hF hF'
    obtain ⟨F, rfl⟩ := succ_of hF
    obtain ⟨F', rfl⟩ := succ_of hF'
    have hni : ¬ Int32.ofNat n ≤ Int32.ofNat i := by rw [of_le (by omega) (by omega)]; omega
    have h10 : ¬ (1 : Int32) = 0 := by decide
    have a0 : H_requireLivingFemales_L2 M (F + 1) v1 (Int32.ofNat i) = H_requireLivingFemales_b2 M (H_requireLivingFemales_L2 M F) v1 (Int32.ofNat i) := rfl
    have b0 : ∀ v5, M_plan_L26 (F' + 1) v1 v2 v3 v5 1 (Int32.ofNat i) M' = M_plan_b26 (M_plan_L26 F') v1 v2 v3 v5 1 (Int32.ofNat i) M' := fun _ => rfl
    have ih1 := ih (i + 1) F F' (by omega) (by omega) (by omega)
    cases hb : bt v1 i
    · have ea : H_requireLivingFemales_L2 M (F + 1) v1 (Int32.ofNat i) = H_requireLivingFemales_L2 M F v1 (Int32.ofNat (i + 1)) := by
        rw [a0]
        unfold H_requireLivingFemales_b2
        rw [P_size_v h.1, Option.bind_some, if_neg hni, if_pos ((tst0 (by omega)).mpr hb), of_s]
      have eb : ∀ v5, M_plan_L26 (F' + 1) v1 v2 v3 v5 1 (Int32.ofNat i) M' = M_plan_L26 F' v1 v2 v3 v5 1 (Int32.ofNat (i + 1)) M' := fun v5 => by
        rw [b0]
        unfold M_plan_b26
        rw [hc, if_neg hni, if_neg h10, if_pos ((tst0 (by omega)).mpr hb), of_s]
      rw [ea]
      simp only [eb]
      exact ih1
    · have hb0 : ¬ (v1 >>> (Int32.ofNat i &&& 31)) &&& 1 = 0 := fun q => by rw [(tst0 (by omega)).mp q] at hb; exact absurd hb (by decide)
      have e14i : M'.1 14 i = M.1 5 i := by rw [e14]; exact (h.2.1 i (by omega)).2.2.1
      have e16i : M'.1 16 i = M.1 16 i := by rw [e16]
      have good : M.1 7 i = 1 → M.1 16 i = 0 → M.1 5 i = 1 → H_requireLivingFemales_L2 M (F + 1) v1 (Int32.ofNat i) = H_requireLivingFemales_L2 M F v1 (Int32.ofNat (i + 1)) ∧ ∀ v5, M_plan_L26 (F' + 1) v1 v2 v3 v5 1 (Int32.ofNat i) M' = M_plan_L26 F' v1 v2 v3 v5 1 (Int32.ofNat (i + 1)) M' := fun h7 h16 h5 => by
        refine ⟨?_, fun v5 => ?_⟩
        · rw [a0]
          unfold H_requireLivingFemales_b2 H_isLiving
          rw [P_size_v h.1, Option.bind_some, if_neg hni, if_neg hb0, gd_in (by omega) (by omega), gd_in (by omega) (by omega), gI_of M 7 (by omega), gI_of M 5 (by omega), h7, h5, if_neg h10, if_pos rfl, Option.bind_some, if_neg h10, of_s]
        · rw [b0]
          unfold M_plan_b26
          rw [hc, if_neg hni, if_neg h10, if_neg hb0, gd_in (by omega) (by omega), gd_in (by omega) (by omega), gI_of M' 14 (by omega), gI_of M' 16 (by omega), e14i, e16i, h5, h16, if_pos rfl, if_pos rfl, of_s]
      have bad : (M.1 7 i = 0 ∧ M.1 16 i = 1) ∨ ¬ M.1 5 i = 1 → H_requireLivingFemales_L2 M (F + 1) v1 (Int32.ofNat i) = some (.error "java/lang/UnsupportedOperationException") ∧ ∀ v5, M_plan_L26 (F' + 1) v1 v2 v3 v5 1 (Int32.ofNat i) M' = planF v1 v2 v3 v5 0 M' := fun hx => by
        have q1 : H_isLiving M (Int32.ofNat i) 1 = some 0 := by
          unfold H_isLiving
          rw [gd_in (by omega) (by omega), gd_in (by omega) (by omega), gI_of M 7 (by omega), gI_of M 5 (by omega)]
          rcases hx with hx | hx
          · rw [if_pos hx.1]
          · rw [if_neg hx, ite_self]
        refine ⟨?_, fun v5 => ?_⟩
        · rw [a0]
          unfold H_requireLivingFemales_b2
          rw [P_size_v h.1, Option.bind_some, if_neg hni, if_neg hb0, q1, Option.bind_some, if_pos rfl]
        · rw [b0]
          unfold M_plan_b26
          rw [hc, if_neg hni, if_neg h10, if_neg hb0, gd_in (by omega) (by omega), gd_in (by omega) (by omega), gI_of M' 14 (by omega), gI_of M' 16 (by omega), e14i, e16i, of_s, plan_no hn hc e (i + 1) F' (by omega) (by omega)]
          rcases hx with hx | hx
          · rw [hx.2, if_neg h10, ite_self]
          · rw [if_neg hx]
      rcases h.2.2.2.1.1 i (by omega) with ⟨h7, h16⟩ | hx
      · by_cases h5 : M.1 5 i = 1
        · obtain ⟨ea, eb⟩ := good h7 h16 h5
          rw [ea]
          simp only [eb]
          exact ih1
        · exact Or.inr (bad (Or.inr h5))
      · exact Or.inr (bad (Or.inl hx))
theorem plan_front {M' : Me} (hn : n ≤ 24) (hc : gF M' 5 = Int32.ofNat n) {v1 v2 : Int32} {v3 : Int64} {v6 : Int32} (h : ∀ v5, M_plan_L26 64 v1 v2 v3 v5 1 0 M' = planF v1 v2 v3 v5 v6 M') : M_plan M' v1 v2 v3 = if v1 >>> (Int32.ofNat n &&& 31) = 0 then planF v1 v2 v3 0 v6 M' else planF v1 v2 v3 1 v6 M' := by
  unfold M_plan
  rw [hc, h, h]
  by_cases q : v1 >>> (Int32.ofNat n &&& 31) = 0
  · rw [if_pos q, if_pos q, if_pos (pos_bt ((z_of hn).mp q 31 (by omega) (by omega)))]
  · rw [if_neg q, if_neg q]
end PLAN2
