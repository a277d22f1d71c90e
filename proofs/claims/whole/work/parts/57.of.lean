/-! of: depth -/
def ndstep (S D : Nat → Int32) : (Nat → Nat) → Nat → Nat := fun T i => if S i = -1 ∧ D i = -1 then 0 else 1 + max (nq T (S i)) (nq T (D i))
abbrev ND (S D : Nat → Int32) (n : Nat) : Nat → Nat := Tb (ndstep S D) 0 n
def n1 (T : Nat → Nat) (p : Int32) : Nat := if p = -1 then 0 else T p.toNatClampNeg + 1
section DEPTH
variable {M M' : Me} {n : Nat} {S D : Nat → Int32}
theorem ND_val (hp : PR S D n) (hn : n ≤ 24) {i : Nat} (hi : i < n) : ND S D n i = max (n1 (ND S D n) (S i)) (n1 (ND S D n) (D i)) := by
  have hT : ∀ k, k < i → Tb (ndstep S D) 0 i k = ND S D n k := fun k hk => (Tb_to (m := n) hk (by omega)).symm
  show Tb (ndstep S D) 0 n i = _
  rw [Tb_val hi]
  show (if S i = -1 ∧ D i = -1 then 0 else 1 + max (nq (Tb (ndstep S D) 0 i) (S i)) (nq (Tb (ndstep S D) 0 i) (D i))) = _
  rw [nq_to (hp i hi).1 (by omega) hT, nq_to (hp i hi).2 (by omega) hT]
  unfold nq n1
  by_cases h1 : S i = -1 <;> by_cases h2 : D i = -1 <;> simp [h1, h2] <;> omega
theorem ND_le (hp : PR S D n) (hn : n ≤ 24) : ∀ i, i < n → ND S D n i ≤ i := by
  intro i
  induction i using Nat.strongRecOn with
  | ind i ih =>
    intro hi
    rw [ND_val hp hn hi]
    have z : ∀ p, par p i → n1 (ND S D n) p ≤ i := fun p hpp => by
      unfold n1
      rcases hpp with hpp | ⟨k, hk, hpp⟩
      · rw [if_pos hpp]; exact Nat.zero_le _
      · rw [hpp, if_neg (of_nm1 (by omega)), of_cl (by omega)]
        have h1 := ih k hk (by omega)
        omega
    have h1 := z _ (hp i hi).1
    have h2 := z _ (hp i hi).2
    omega
theorem DEP_ND (hp : PR S D n) (hn : n ≤ 24) : ∀ i, i < n → Tb (dstep S D) 0 n i = Int32.ofNat (ND S D n i) := by
  intro i
  induction i using Nat.strongRecOn with
  | ind i ih =>
    intro hi
    have hq : ∀ p, par p i → dq (Tb (dstep S D) 0 i) p = Int32.ofNat (nq (Tb (ndstep S D) 0 i) p) ∧ nq (Tb (ndstep S D) 0 i) p < 24 := fun p hpp => by
      rcases hpp with hpp | ⟨k, hk, hpp⟩
      · unfold dq nq; rw [if_pos hpp, if_pos hpp]; exact ⟨rfl, by omega⟩
      · have e1 : Tb (dstep S D) 0 i k = Tb (dstep S D) 0 n k := (Tb_to (m := n) hk (by omega)).symm
        have e2 : Tb (ndstep S D) 0 i k = ND S D n k := (Tb_to (m := n) hk (by omega)).symm
        rw [hpp, nq_of (by omega), e2]
        unfold dq
        rw [if_neg (of_nm1 (by omega)), of_cl (by omega), e1]
        have hle := ND_le hp hn k (by omega)
        exact ⟨ih k hk (by omega), by omega⟩
    show Tb (dstep S D) 0 n i = Int32.ofNat (Tb (ndstep S D) 0 n i)
    rw [Tb_val hi, Tb_val (step := ndstep S D) hi]
    unfold dstep ndstep
    obtain ⟨a1, a2⟩ := hq _ (hp i hi).1
    obtain ⟨b1, b2⟩ := hq _ (hp i hi).2
    unfold dstep ndstep at a1 b1
    unfold ndstep at a2 b2
    by_cases hz : S i = -1 ∧ D i = -1
    · rw [if_pos hz, if_pos hz]; rfl
    · rw [if_neg hz, if_neg hz, a1, b1, Int32.ofNat_add]
      congr 1
      generalize nq (Tb (fun T i => if S i = -1 ∧ D i = -1 then 0 else 1 + max (nq T (S i)) (nq T (D i))) 0 i) (S i) = x at *
      generalize nq (Tb (fun T i => if S i = -1 ∧ D i = -1 then 0 else 1 + max (nq T (S i)) (nq T (D i))) 0 i) (D i) = y at *
      by_cases hxy : x < y
      · rw [if_pos ((of_lt (by omega) (by omega)).mpr hxy), Nat.max_eq_right (by omega)]
      · rw [if_neg (fun q => hxy ((of_lt (by omega) (by omega)).mp q)), Nat.max_eq_left (by omega)]
theorem rdD {α : Type} {i : Nat} (hi : i < 24) {g : Nat → Int32} {T : Nat → Nat} (hg : ∀ j, j < i → g j = Int32.ofNat (T j)) {p : Int32} (hp : par p i) (K : Int32 → Option α) : (if (0 : Int32) ≤ p then (gd (inb (Int32.ofNat i) 24) (gd (inb p 24) (K ((gI (uI M 17 g) 17 p) + 1)))) else K 0) = K (Int32.ofNat (n1 T p)) := by
  unfold n1
  rcases hp with hp | ⟨k, hk, hp⟩
  · rw [hp, if_neg (by decide), if_pos rfl]; rfl
  · rw [hp, if_pos (of_0le (by omega)), gd_in (by omega) (by omega), gd_in (by omega) (by omega), gI_uI M 17 g (by omega), hg k hk, of_s, if_neg (of_nm1 (by omega)), of_cl (by omega)]
theorem depML (hp : PR (M.1 12) (M.1 13) n) (hn : n ≤ 24) {a : Nat} (ha : a < n) : ∀ (d i F : Nat) (g : Nat → Int32), i + d = a + 1 → d < F → (∀ j, j < i → g j = Int32.ofNat (ND (M.1 12) (M.1 13) n j)) → ∃ g', M_depthOf_L2 F (Int32.ofNat a) (Int32.ofNat i) (uI M 17 g) = some (Int32.ofNat (ND (M.1 12) (M.1 13) n a), uI M 17 g') := by
  intro d
  induction d with
  | zero =>
    intro i F g hi hF hg
    obtain ⟨F, rfl⟩ := succ_of hF
    refine ⟨g, ?_⟩
    show M_depthOf_b2 _ _ _ _ = _
    unfold M_depthOf_b2
    rw [if_pos ((of_lt (by omega) (by omega)).mpr (by omega)), gd_in (by omega) (by omega), gI_uI M 17 g (by omega), hg a (by omega)]
  | succ d ih =>
    intro i F g hi hF hg
    obtain ⟨F, rfl⟩ := succ_of hF
    have hin : i < n := by omega
    show ∃ g', M_depthOf_b2 (M_depthOf_L2 F) (Int32.ofNat a) (Int32.ofNat i) (uI M 17 g) = some (_, uI M 17 g')
    unfold M_depthOf_b2
    rw [if_neg (fun h => absurd ((of_lt (by omega) (by omega)).mp h) (by omega)), gd_in (by omega) (by omega), gI_of _ 12 (by omega), uI_ne M g (by decide)]
    rw [rdD (M := M) (i := i) (by omega) hg (hp i hin).1 (fun z => M_depthOf_c33 (M_depthOf_L2 F) (Int32.ofNat a) (Int32.ofNat i) z (uI M 17 g))]
    unfold M_depthOf_c33
    rw [gd_in (by omega) (by omega), gI_of _ 13 (by omega), uI_ne M g (by decide)]
    rw [rdD (M := M) (i := i) (by omega) hg (hp i hin).2 (fun z => M_depthOf_c60 (M_depthOf_L2 F) (Int32.ofNat a) (Int32.ofNat i) (Int32.ofNat (n1 (ND (M.1 12) (M.1 13) n) (M.1 12 i))) z (uI M 17 g))]
    unfold M_depthOf_c60
    rw [gd_in (by omega) (by omega), gd_in (by omega) (by omega), sI_uI, sI_uI, of_cl (by omega), of_s]
    have hv := ND_val hp hn hin
    have hle := ND_le hp hn i hin
    have hup : ∀ x, x = ND (M.1 12) (M.1 13) n i → ∀ j, j < i + 1 → upd g i (Int32.ofNat x) j = Int32.ofNat (ND (M.1 12) (M.1 13) n j) := fun x hx j h2 => by
      unfold upd
      by_cases hj : j = i
      · rw [if_pos hj, hj, hx]
      · rw [if_neg hj]; exact hg j (by omega)
    by_cases hc : n1 (ND (M.1 12) (M.1 13) n) (M.1 12 i) ≤ n1 (ND (M.1 12) (M.1 13) n) (M.1 13 i)
    · rw [if_pos ((of_le (by omega) (by omega)).mpr hc)]
      exact ih (i + 1) F _ (by omega) (by omega) (hup _ (by omega))
    · rw [if_neg (fun q => hc ((of_le (by omega) (by omega)).mp q))]
      exact ih (i + 1) F _ (by omega) (by omega) (hup _ (by omega))
theorem depM (h : Inv M n) (g : Ag M M') {a : Nat} (ha : a < n) : ∃ g', M_depthOf M' (Int32.ofNat a) = some (M.1 2 a, uI M' 17 g') := by
  have hn := h.1.1
  have hA : ∀ i, i < n → M'.1 12 i = M.1 0 i ∧ M'.1 13 i = M.1 1 i := fun i hi => by
    rw [g.1 12 rfl, g.1 13 rfl]; exact ⟨(h.2.1 i hi).1, (h.2.1 i hi).2.1⟩
  have hp : PR (M'.1 12) (M'.1 13) n := fun i hi => by rw [(hA i hi).1, (hA i hi).2]; exact h.2.2.1 i hi
  have hE : ND (M'.1 12) (M'.1 13) n = ND (M.1 0) (M.1 1) n := Tb_ext n (fun i hi T => by unfold ndstep; rw [(hA i hi).1, (hA i hi).2])
  have q := depML (M := M') hp hn ha (a + 1) 0 64 (M'.1 17) (by omega) (by omega) (fun j hj => by omega)
  rw [uI_id, hE] at q
  rw [(h.2.2.2.2.2.2.1 a ha).1, DEP_ND h.2.2.1 hn a ha]
  exact q
theorem sim_of (h : Inv M n) (a w : Int32) : SimI (L_of M a w) (fun M1 => M_of M1 a w) n := by
  have hn := h.1.1
  rcases isA_cases n hn a with ⟨i, hi, rfl⟩ | ha
  · have hA := h.2.1 i hi
    have ok : ∀ (r : Int32) (u : Option (Nat → Int32)), H_of M (Int32.ofNat i) w = some (.ok r) → (∃ u', M_of (sL M 7 0 r.toInt64) (Int32.ofNat i) w = some (r, uI (sF (sL M 7 0 r.toInt64) 4 0) 17 u')) → SimI (L_of M (Int32.ofNat i) w) (fun M1 => M_of M1 (Int32.ofNat i) w) n := fun r _ h1 h2 => by
      obtain ⟨u', h2⟩ := h2
      refine simI_ok (Mx := M) (r := r) (M2 := uI (sF (sL M 7 0 r.toInt64) 4 0) 17 u') ?_ h2 rfl rfl (Inv_Ag (Ag_tr (Ag_70 M _) (Ag_uI _ u' rfl)) h)
      unfold L_of
      rw [h1]
      rfl
    have md : ∀ (r : Int32) (M' : Me), M' = sL M 7 0 r.toInt64 → ¬ w < 0 → w ≤ 5 → M_of M' (Int32.ofNat i) w = M_of_c28 (Int32.ofNat i) w 0 0 M' := fun r M' e z1 z2 => by
      have hB : IB M' n := by rw [e]; exact IB_Ag (Ag_7 M r.toInt64) h
      unfold M_of M_of_c14
      rw [is_ok hB hi, Option.bind_some, if_neg (by decide), if_neg z1, if_pos z2]
    have un : ∀ r : Int32, sF (sL M 7 0 r.toInt64) 4 0 = uI (sF (sL M 7 0 r.toInt64) 4 0) 17 ((sF (sL M 7 0 r.toInt64) 4 0).1 17) := fun r => (uI_id _ 17).symm
    by_cases z0 : w = 0
    · subst z0
      refine ok (M.1 0 i) none ?_ ⟨(sF (sL M 7 0 (M.1 0 i).toInt64) 4 0).1 17, ?_⟩
      · unfold H_of P_sireOf
        rw [reqA_ok h.1 hi, thrP_ok, if_pos rfl, gd_in (by omega) (by omega), gI_of M 0 (by omega)]
        rfl
      · rw [md _ _ rfl (by decide) (by decide), ← un]
        unfold M_of_c28
        rw [refused_0, Option.bind_some, if_pos rfl, if_pos rfl, gd_in (by omega) (by omega), gI_of _ 12 (by omega)]
        show some (M.1 12 i, _) = _
        rw [hA.1]
    by_cases z1 : w = 1
    · subst z1
      refine ok (M.1 1 i) none ?_ ⟨(sF (sL M 7 0 (M.1 1 i).toInt64) 4 0).1 17, ?_⟩
      · unfold H_of P_damOf
        rw [reqA_ok h.1 hi, thrP_ok, if_neg (by decide), if_pos rfl, gd_in (by omega) (by omega), gI_of M 1 (by omega)]
        rfl
      · rw [md _ _ rfl (by decide) (by decide), ← un]
        unfold M_of_c28
        rw [refused_0, Option.bind_some, if_pos rfl, if_neg (by decide), if_pos rfl, gd_in (by omega) (by omega), gI_of _ 13 (by omega)]
        show some (M.1 13 i, _) = _
        rw [hA.2.1]
    by_cases z2 : w = 2
    · subst z2
      refine ok (M.1 5 i) none ?_ ⟨(sF (sL M 7 0 (M.1 5 i).toInt64) 4 0).1 17, ?_⟩
      · unfold H_of
        rw [reqA_ok h.1 hi, thrP_ok, if_neg (by decide), if_neg (by decide), if_pos rfl, gd_in (by omega) (by omega), gI_of M 5 (by omega)]
      · rw [md _ _ rfl (by decide) (by decide), ← un]
        unfold M_of_c28
        rw [refused_0, Option.bind_some, if_pos rfl, if_neg (by decide), if_neg (by decide), if_pos rfl, gd_in (by omega) (by omega), gI_of _ 14 (by omega)]
        show some (M.1 14 i, _) = _
        rw [hA.2.2.1]
    by_cases z3 : w = 3
    · subst z3
      refine ok (M.1 6 i) none ?_ ⟨(sF (sL M 7 0 (M.1 6 i).toInt64) 4 0).1 17, ?_⟩
      · unfold H_of
        rw [reqA_ok h.1 hi, thrP_ok, if_neg (by decide), if_neg (by decide), if_neg (by decide), if_pos rfl, gd_in (by omega) (by omega), gI_of M 6 (by omega)]
      · rw [md _ _ rfl (by decide) (by decide), ← un]
        unfold M_of_c28
        rw [refused_0, Option.bind_some, if_pos rfl, if_neg (by decide), if_neg (by decide), if_neg (by decide), if_pos rfl, gd_in (by omega) (by omega), gI_of _ 15 (by omega)]
        show some (M.1 15 i, _) = _
        rw [hA.2.2.2]
    by_cases z4 : w = 4
    · subst z4
      rcases al_cases h hi (Ag_rf M) with ⟨h1, h2⟩ | ⟨h1, h2⟩
      · refine ok 1 none ?_ ⟨(sF (sL M 7 0 (1 : Int32).toInt64) 4 0).1 17, ?_⟩
        · unfold H_of
          rw [reqA_ok h.1 hi, thrP_ok, if_neg (by decide), if_neg (by decide), if_neg (by decide), if_neg (by decide), if_pos rfl, gd_in (by omega) (by omega), gI_of M 7 (by omega), h1, if_neg (by decide)]
        · rw [md _ _ rfl (by decide) (by decide), ← un]
          unfold M_of_c28
          rw [refused_0, Option.bind_some, if_pos rfl, if_neg (by decide), if_neg (by decide), if_neg (by decide), if_neg (by decide), if_pos rfl, gd_in (by omega) (by omega), gI_of _ 16 (by omega)]
          show (if M.1 16 i = 0 then _ else _) = _
          rw [h2, if_pos rfl]
      · refine ok 0 none ?_ ⟨(sF (sL M 7 0 (0 : Int32).toInt64) 4 0).1 17, ?_⟩
        · unfold H_of
          rw [reqA_ok h.1 hi, thrP_ok, if_neg (by decide), if_neg (by decide), if_neg (by decide), if_neg (by decide), if_pos rfl, gd_in (by omega) (by omega), gI_of M 7 (by omega), h1, if_pos rfl]
        · rw [md _ _ rfl (by decide) (by decide), ← un]
          unfold M_of_c28
          rw [refused_0, Option.bind_some, if_pos rfl, if_neg (by decide), if_neg (by decide), if_neg (by decide), if_neg (by decide), if_pos rfl, gd_in (by omega) (by omega), gI_of _ 16 (by omega)]
          show (if M.1 16 i = 0 then _ else _) = _
          rw [h2, if_neg (by decide)]
    by_cases z5 : w = 5
    · subst z5
      obtain ⟨u', hu⟩ := depM h (Ag_70 M (M.1 2 i).toInt64) hi
      refine ok (M.1 2 i) none ?_ ⟨u', ?_⟩
      · unfold H_of P_depthOf
        rw [reqA_ok h.1 hi, thrP_ok, if_neg (by decide), if_neg (by decide), if_neg (by decide), if_neg (by decide), if_neg (by decide), if_pos rfl, gd_in (by omega) (by omega), gI_of M 2 (by omega)]
        rfl
      · rw [md _ _ rfl (by decide) (by decide)]
        unfold M_of_c28
        rw [refused_0, Option.bind_some, if_pos rfl, if_neg (by decide), if_neg (by decide), if_neg (by decide), if_neg (by decide), if_neg (by decide)]
        show Option.bind (M_depthOf (sF (sL M 7 0 (M.1 2 i).toInt64) 4 0) (Int32.ofNat i)) _ = _
        rw [hu]
        rfl
    refine simI_er 2 h ?_ ?_ (by decide)
    · unfold L_of H_of
      rw [reqA_ok h.1 hi, thrP_ok, if_neg z0, if_neg z1, if_neg z2, if_neg z3, if_neg z4, if_neg z5]
      rfl
    · show M_of _ _ _ = _
      unfold M_of M_of_c14
      rw [is_ok h.1 hi, Option.bind_some, if_neg (by decide)]
      rcases ab_sw6 z0 z1 z2 z3 z4 z5 with q | q
      · rw [if_pos (by rw [Int32.lt_iff_toInt_lt]; exact q)]
        unfold M_of_c28
        rw [refused_2]
        rfl
      · rw [if_neg (by rw [Int32.lt_iff_toInt_lt]; show ¬ w.toInt < 0; omega), if_neg (by rw [Int32.le_iff_toInt_le]; show ¬ w.toInt ≤ 5; omega)]
        unfold M_of_c28
        rw [refused_2]
        rfl
  · refine simI_er 1 h ?_ ?_ (by decide)
    · unfold L_of H_of
      rw [reqA_no h.1 ha]
      rfl
    · show M_of _ _ _ = _
      unfold M_of M_of_c14
      rw [is_no h.1 ha, Option.bind_some, if_pos rfl]
      unfold M_of_c28
      rw [refused_1, refused_1]
      split
      · rfl
      · split <;> rfl
end DEPTH
