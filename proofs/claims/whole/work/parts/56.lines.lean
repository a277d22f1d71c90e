/-! lines, ancestors, descendants, nearest -/
section LINES
variable {M M' : Me} {n : Nat}
theorem lnUp_v (hp : PR (M.1 0) (M.1 1) n) (hn : n ≤ 24) {f i : Nat} (hf : f < n) (hi : i ≤ n) {g : Nat → Int32} (hg : ∀ j, f ≤ j → j < i → g j = Int32.ofNat (NL (M.1 0) (M.1 1) f n j)) {p : Int32} (hpp : par p i) : P_linesUpTo (uI M 4 g) (Int32.ofNat f) p = some (lnq (NL (M.1 0) (M.1 1) f n) p) := by
  unfold P_linesUpTo
  rcases hpp with hpp | ⟨k, hk, hpp⟩
  · rw [hpp, if_neg (fun h => absurd (Int32.le_trans (of_0le (k := f) (by omega)) h) (by decide)), lnq_m1]
  · rw [hpp, lnq_of (by omega)]
    by_cases hfk : f ≤ k
    · rw [if_pos ((of_le (by omega) (by omega)).mpr hfk), gd_in (by omega) (by omega), gI_uI M 4 g (by omega), hg k hfk hk]
    · rw [if_neg (fun h => hfk ((of_le (by omega) (by omega)).mp h)), NL_low hp hn k (by omega) (by omega)]
      rfl
theorem NL_val32 {S D : Nat → Int32} (hp : PR S D n) (hn : n ≤ 24) {f i : Nat} (hi : i < n) (hf : ¬ i = f) : Int32.ofNat (NL S D f n i) = lnq (NL S D f n) (S i) + lnq (NL S D f n) (D i) := by
  rw [NL_val hp hn hi hf, Int32.ofNat_add]
  rfl
theorem linesL (hp : PR (M.1 0) (M.1 1) n) (hn : n ≤ 24) {f a : Nat} (hf : f < n) (ha : a < n) (hfa : f ≤ a) : ∀ (d i F : Nat) (g : Nat → Int32), i + d = a + 1 → f ≤ i → d < F → (∀ j, f ≤ j → j < i → g j = Int32.ofNat (NL (M.1 0) (M.1 1) f n j)) → ∃ g', P_linesDown_L2 F (Int32.ofNat f) (Int32.ofNat a) (Int32.ofNat i) (uI M 4 g) = some (Int32.ofNat (NL (M.1 0) (M.1 1) f n a), uI M 4 g') := by
  intro d
  induction d with
  | zero =>
    intro i F g hi hfi hF hg
    obtain ⟨F, rfl⟩ := succ_of hF
    refine ⟨g, ?_⟩
    show P_linesDown_b2 _ _ _ _ _ = _
    unfold P_linesDown_b2
    rw [if_pos ((of_lt (by omega) (by omega)).mpr (by omega)), lnUp_v hp hn hf (show a + 1 ≤ n by omega) (fun j h1 h2 => hg j h1 (by omega)) (Or.inr ⟨a, by omega, rfl⟩), Option.bind_some, lnq_of (by omega)]
  | succ d ih =>
    intro i F g hi hfi hF hg
    obtain ⟨F, rfl⟩ := succ_of hF
    have hin : i < n := by omega
    show ∃ g', P_linesDown_b2 (P_linesDown_L2 F) (Int32.ofNat f) (Int32.ofNat a) (Int32.ofNat i) (uI M 4 g) = some (Int32.ofNat (NL (M.1 0) (M.1 1) f n a), uI M 4 g')
    unfold P_linesDown_b2
    rw [if_neg (fun h => absurd ((of_lt (by omega) (by omega)).mp h) (by omega)), gd_in (by omega) (by omega), sI_uI, of_cl (by omega), of_s]
    have hup : ∀ x, x = Int32.ofNat (NL (M.1 0) (M.1 1) f n i) → ∀ j, f ≤ j → j < i + 1 → upd g i x j = Int32.ofNat (NL (M.1 0) (M.1 1) f n j) := fun x hx j h1 h2 => by
      unfold upd
      by_cases hj : j = i
      · rw [if_pos hj, hj, hx]
      · rw [if_neg hj]; exact hg j h1 (by omega)
    by_cases hif : i = f
    · rw [if_pos (by rw [hif])]
      exact ih (i + 1) F _ (by omega) (by omega) (by omega) (hup _ (by rw [hif, NL_self hf]; rfl))
    · rw [if_neg (fun h => hif ((of_eq (by omega) (by omega)).mp h)), gd_in (by omega) (by omega), gI_of _ 0 (by omega), uI_ne M g (by decide)]
      rw [lnUp_v hp hn hf (by omega) hg (hp i hin).1, Option.bind_some, gd_in (by omega) (by omega), gI_of _ 1 (by omega), uI_ne M g (by decide)]
      rw [lnUp_v hp hn hf (by omega) hg (hp i hin).2, Option.bind_some, gd_in (by omega) (by omega), sI_uI, of_cl (by omega)]
      exact ih (i + 1) F _ (by omega) (by omega) (by omega) (hup _ (NL_val32 hp hn hin hif).symm)
theorem linesC (hp : PR (M.1 0) (M.1 1) n) (hn : n ≤ 24) {f a : Nat} (hf : f < n) (ha : a < n) : ∃ g', P_linesDown M (Int32.ofNat f) (Int32.ofNat a) = some (Int32.ofNat (NL (M.1 0) (M.1 1) f n a), uI M 4 g') := by
  unfold P_linesDown
  by_cases hfa : f ≤ a
  · have h := linesL hp hn hf ha hfa (a + 1 - f) f 64 (M.1 4) (by omega) (by omega) (by omega) (fun j h1 h2 => by omega)
    rw [uI_id] at h
    exact h
  · refine ⟨M.1 4, ?_⟩
    rw [uI_id, NL_low hp hn a ha (by omega)]
    show P_linesDown_b2 _ _ _ _ _ = _
    unfold P_linesDown_b2 P_linesUpTo
    rw [if_pos ((of_lt (by omega) (by omega)).mpr (by omega)), if_neg (fun h => hfa ((of_le (by omega) (by omega)).mp h))]
    rfl
theorem rdI {α : Type} {i : Nat} (hi : i < 24) {g : Nat → Int32} {T : Nat → Nat} (hg : ∀ j, j < i → g j = Int32.ofNat (T j)) {p : Int32} (hp : par p i) (K : Int32 → Option α) : (if (0 : Int32) ≤ p then (gd (inb (Int32.ofNat i) 24) (gd (inb p 24) (K (gI (uI M 18 g) 18 p)))) else K 0) = K (lnq T p) := by
  rcases hp with hp | ⟨k, hk, hp⟩
  · rw [hp, if_neg (by decide), lnq_m1]
  · rw [hp, if_pos (of_0le (by omega)), gd_in (by omega) (by omega), gd_in (by omega) (by omega), gI_uI M 18 g (by omega), lnq_of (by omega), hg k hk]
theorem linesML (hc : gF M 5 = Int32.ofNat n) (hp : PR (M.1 12) (M.1 13) n) (hn : n ≤ 24) {f t : Nat} (hf : f < n) (ht : t < n) : ∀ (d i F : Nat) (g : Nat → Int32), i + d = n → d < F → (∀ j, j < i → g j = Int32.ofNat (NL (M.1 12) (M.1 13) f n j)) → ∃ g', M_linesOf_L2 F (Int32.ofNat f) (Int32.ofNat t) (Int32.ofNat i) (uI M 18 g) = some (Int32.ofNat (NL (M.1 12) (M.1 13) f n t), uI M 18 g') := by
  intro d
  induction d with
  | zero =>
    intro i F g hi hF hg
    obtain ⟨F, rfl⟩ := succ_of hF
    have hi2 : i = n := by omega
    subst hi2
    refine ⟨g, ?_⟩
    show M_linesOf_b2 _ _ _ _ _ = _
    unfold M_linesOf_b2
    rw [show gF (uI M 18 g) 5 = gF M 5 from rfl, hc, if_pos (Int32.le_refl _), gd_in (by omega) (by omega), gI_uI M 18 g (by omega), hg t ht]
  | succ d ih =>
    intro i F g hi hF hg
    obtain ⟨F, rfl⟩ := succ_of hF
    have hin : i < n := by omega
    have hni : ¬ Int32.ofNat n ≤ Int32.ofNat i := by rw [of_le (by omega) (by omega)]; omega
    show ∃ g', M_linesOf_b2 (M_linesOf_L2 F) (Int32.ofNat f) (Int32.ofNat t) (Int32.ofNat i) (uI M 18 g) = some (_, uI M 18 g')
    unfold M_linesOf_b2
    rw [show gF (uI M 18 g) 5 = gF M 5 from rfl, hc, if_neg hni, gd_in (by omega) (by omega), gI_of _ 12 (by omega), uI_ne M g (by decide)]
    rw [rdI (M := M) (i := i) (by omega) hg (hp i hin).1 (fun z => M_linesOf_c34 (M_linesOf_L2 F) (Int32.ofNat f) (Int32.ofNat t) (Int32.ofNat i) z (uI M 18 g))]
    unfold M_linesOf_c34
    rw [gd_in (by omega) (by omega), gI_of _ 13 (by omega), uI_ne M g (by decide)]
    rw [rdI (M := M) (i := i) (by omega) hg (hp i hin).2 (fun z => M_linesOf_c60 (M_linesOf_L2 F) (Int32.ofNat f) (Int32.ofNat t) (Int32.ofNat i) (lnq (NL (M.1 12) (M.1 13) f n) (M.1 12 i)) z (uI M 18 g))]
    unfold M_linesOf_c60
    rw [gd_in (by omega) (by omega), gd_in (by omega) (by omega), sI_uI, sI_uI, of_cl (by omega), of_s]
    have hup : ∀ x, x = Int32.ofNat (NL (M.1 12) (M.1 13) f n i) → ∀ j, j < i + 1 → upd g i x j = Int32.ofNat (NL (M.1 12) (M.1 13) f n j) := fun x hx j h2 => by
      unfold upd
      by_cases hj : j = i
      · rw [if_pos hj, hj, hx]
      · rw [if_neg hj]; exact hg j (by omega)
    by_cases hif : i = f
    · rw [if_pos (by rw [hif])]
      exact ih (i + 1) F _ (by omega) (by omega) (hup _ (by rw [hif, NL_self hf]; rfl))
    · rw [if_neg (fun h => hif ((of_eq (by omega) (by omega)).mp h))]
      exact ih (i + 1) F _ (by omega) (by omega) (hup _ (NL_val32 hp hn hin hif).symm)
theorem linesM (h : Inv M n) (g : Ag M M') {f t : Nat} (hf : f < n) (ht : t < n) : ∃ g', M_linesOf M' (Int32.ofNat f) (Int32.ofNat t) = some (Int32.ofNat (NL (M.1 0) (M.1 1) f n t), uI M' 18 g') := by
  have hn := h.1.1
  have hB' := IB_Ag g h
  have hA : ∀ i, i < n → M'.1 12 i = M.1 0 i ∧ M'.1 13 i = M.1 1 i := fun i hi => by
    rw [g.1 12 rfl, g.1 13 rfl]; exact ⟨(h.2.1 i hi).1, (h.2.1 i hi).2.1⟩
  have hp : PR (M'.1 12) (M'.1 13) n := fun i hi => by rw [(hA i hi).1, (hA i hi).2]; exact h.2.2.1 i hi
  have hE : NL (M'.1 12) (M'.1 13) f n = NL (M.1 0) (M.1 1) f n := Tb_ext n (fun i hi T => by unfold nlstep; rw [(hA i hi).1, (hA i hi).2])
  have q := linesML (M := M') hB'.c hp hn hf ht n 0 64 (M'.1 18) (by omega) (by omega) (fun j hj => by omega)
  rw [uI_id, hE] at q
  exact q
theorem pos_of {k : Nat} (hk : k < 2147483648) : Int32.ofNat k ≤ 0 ↔ k = 0 := by
  rw [show (0 : Int32) = Int32.ofNat 0 from rfl, of_le hk (by omega)]
  omega
abbrev FB (M : Me) (n : Nat) : Nat → Int32 := Tb (fstep (M.1 0) (M.1 1)) 0 n
/-- the reference's loop over possible forebears -/
theorem ancML (h : Inv M n) (g : Ag M M') {a : Nat} (ha : a < n) : ∀ (d i F : Nat) (c : Int32) (u : Nat → Int32), i + d = n → d < F → (∀ k, k < 32 → bt c k = decide (k < i ∧ ¬ k = a ∧ 0 < NL (M.1 0) (M.1 1) k n a)) → ∃ u', M_ancestorsOf_L4 F (Int32.ofNat a) c (Int32.ofNat i) (uI M' 18 u) = some (FB M n a, uI M' 18 u') := by
  have hn := h.1.1
  have hB' := IB_Ag g h
  intro d
  induction d with
  | zero =>
    intro i F c u hi hF hc
    obtain ⟨F, rfl⟩ := succ_of hF
    have hi2 : i = n := by omega
    subst hi2
    refine ⟨u, ?_⟩
    show M_ancestorsOf_b4 _ _ _ _ _ = _
    unfold M_ancestorsOf_b4
    rw [show gF (uI M' 18 u) 5 = gF M' 5 from rfl, hB'.c, if_pos (Int32.le_refl _)]
    have e : c = FB M i a := by
      apply bt_ext
      intro k hk
      rw [hc k hk, FB_bits h.2.2.1 hn a ha k hk]
      by_cases hka : k < a
      · have h1 : k < i := by omega
        have h2 : ¬ k = a := by omega
        simp [hka, h1, h2]
      · by_cases hke : k = a
        · simp [hke]
        · by_cases hki : k < i
          · have z := NL_low h.2.2.1 hn (f := k) a ha (by omega)
            rw [z]
            simp
          · simp [hka, hki]
    rw [e]
  | succ d ih =>
    intro i F c u hi hF hc
    obtain ⟨F, rfl⟩ := succ_of hF
    have hni : ¬ Int32.ofNat n ≤ Int32.ofNat i := by rw [of_le (by omega) (by omega)]; omega
    have gU : Ag M (uI M' 18 u) := Ag_tr g (Ag_uI M' u rfl)
    have hin : i < n := by omega
    show ∃ u', M_ancestorsOf_b4 (M_ancestorsOf_L4 F) (Int32.ofNat a) c (Int32.ofNat i) (uI M' 18 u) = some (FB M n a, uI M' 18 u')
    unfold M_ancestorsOf_b4
    rw [show gF (uI M' 18 u) 5 = gF M' 5 from rfl, hB'.c, if_neg hni, of_s]
    by_cases hia : i = a
    · rw [if_pos (by rw [hia])]
      refine ih (i + 1) F c u (by omega) (by omega) (fun k hk => ?_)
      rw [hc k hk]
      congr 1
      apply propext
      constructor
      · intro q; exact ⟨by omega, q.2⟩
      · intro q; exact ⟨by omega, q.2⟩
    · obtain ⟨u2, k1⟩ := linesM h gU hin ha
      have hlt := NL_lt h.2.2.1 hn (f := i) ha
      rw [if_neg (fun q => hia ((of_eq (by omega) (by omega)).mp q)), k1, Option.bind_some, uI_uI]
      by_cases hz : NL (M.1 0) (M.1 1) i n a = 0
      · rw [if_pos ((pos_of hlt).mpr hz)]
        refine ih (i + 1) F c u2 (by omega) (by omega) (fun k hk => ?_)
        rw [hc k hk]
        congr 1
        apply propext
        constructor
        · intro q; exact ⟨by omega, q.2⟩
        · intro q
          refine ⟨?_, q.2⟩
          have hke : ¬ k = i := fun e => by rw [e, hz] at q; exact absurd q.2.2 (Nat.lt_irrefl 0)
          omega
      · rw [if_neg (fun q => hz ((pos_of hlt).mp q))]
        refine ih (i + 1) F _ u2 (by omega) (by omega) (fun k hk => ?_)
        rw [bt_or, hc k hk, bt_shl i (by omega) k hk]
        by_cases hke : k = i
        · subst hke
          simp [hia, Nat.pos_of_ne_zero hz]
        · by_cases hki : k < i
          · simp [hke, hki, show k < i + 1 by omega]
          · simp [hke, hki, show ¬ k < i + 1 by omega]
theorem ancM (h : Inv M n) (g : Ag M M') {a : Nat} (ha : a < n) : ∃ u', M_ancestorsOf M' (Int32.ofNat a) = some (FB M n a, uI M' 18 u') := by
  have hn := h.1.1
  have q := ancML h g ha n 0 64 0 (M'.1 18) (by omega) (by omega) (fun k hk => by rw [bt_0]; simp)
  rw [uI_id] at q
  exact q
theorem sim_ancestors (h : Inv M n) (a : Int32) : SimI (L_ancestors M a) (fun M1 => M_ancestors M1 a) n := by
  have hn := h.1.1
  rcases isA_cases n hn a with ⟨i, hi, rfl⟩ | ha
  · obtain ⟨u, hu⟩ := ancM h (Ag_70 M (FB M n i).toInt64) hi
    have hB := IB_Ag (Ag_7 M (FB M n i).toInt64) h
    have hD := (h.2.2.2.2.2.2.1 i hi).2
    refine simI_ok (Mx := M) (r := FB M n i) (M2 := uI (sF (sL M 7 0 (FB M n i).toInt64) 4 0) 18 u) ?_ ?_ rfl rfl (Inv_Ag (Ag_tr (Ag_70 M _) (Ag_uI _ u rfl)) h)
    · unfold L_ancestors H_ancestors P_forebearsOf
      rw [reqA_ok h.1 hi, thrP_ok, gd_in (by omega) (by omega), gI_of M 3 (by omega), hD]
      rfl
    · show M_ancestors _ _ = _
      unfold M_ancestors M_ancestors_c14
      rw [is_ok hB hi, Option.bind_some, if_neg (by decide), refused_0, Option.bind_some, if_pos rfl]
      show Option.bind (M_ancestorsOf (sF (sL M 7 0 _) 4 0) _) _ = _
      rw [hu]
      rfl
  · refine simI_er 1 h ?_ ?_ (by decide)
    · unfold L_ancestors H_ancestors
      rw [reqA_no h.1 ha]
      rfl
    · show M_ancestors _ _ = _
      unfold M_ancestors M_ancestors_c14
      rw [is_no h.1 ha, Option.bind_some, if_pos rfl, refused_1]
      rfl
theorem sim_lines (h : Inv M n) (f a : Int32) : SimI (L_lines M f a) (fun M1 => M_lines M1 f a) n := by
  have hn := h.1.1
  rcases isA_cases n hn f with ⟨i, hi, rfl⟩ | hf
  · rcases isA_cases n hn a with ⟨j, hj, rfl⟩ | hb
    · obtain ⟨g1, hg1⟩ := linesC h.2.2.1 hn hi hj
      have gA : Ag M (sL (uI M 4 g1) 7 0 (Int32.ofNat (NL (M.1 0) (M.1 1) i n j)).toInt64) := Ag_tr (Ag_uI M g1 rfl) (Ag_7 _ _)
      have gB : Ag M (sF (sL (uI M 4 g1) 7 0 (Int32.ofNat (NL (M.1 0) (M.1 1) i n j)).toInt64) 4 0) := Ag_tr gA (Ag_sF _ 0 rfl)
      obtain ⟨g2, hg2⟩ := linesM h gB hi hj
      refine simI_ok (Mx := uI M 4 g1) (r := Int32.ofNat (NL (M.1 0) (M.1 1) i n j)) (M2 := uI (sF (sL (uI M 4 g1) 7 0 (Int32.ofNat (NL (M.1 0) (M.1 1) i n j)).toInt64) 4 0) 18 g2) ?_ ?_ rfl rfl (Inv_Ag (Ag_tr gB (Ag_uI _ g2 rfl)) h)
      · unfold L_lines H_lines
        rw [reqA_ok h.1 hi, thrP_ok, reqA_ok h.1 hj, thrP_ok, hg1]
        rfl
      · show M_lines _ _ _ = _
        have hB := IB_Ag gA h
        unfold M_lines M_lines_c22
        rw [is_ok hB hi, Option.bind_some, if_neg (by decide), is_ok hB hj, Option.bind_some, if_neg (by decide), refused_0, Option.bind_some, if_pos rfl]
        show Option.bind (M_linesOf (sF (sL (uI M 4 g1) 7 0 _) 4 0) _ _) _ = _
        rw [hg2]
        rfl
    · refine simI_er 1 h ?_ ?_ (by decide)
      · unfold L_lines H_lines
        rw [reqA_ok h.1 hi, thrP_ok, reqA_no h.1 hb]
        rfl
      · show M_lines _ _ _ = _
        unfold M_lines M_lines_c22
        rw [is_ok h.1 hi, Option.bind_some, if_neg (by decide), is_no h.1 hb, Option.bind_some, if_pos rfl, refused_1]
        rfl
  · refine simI_er 1 h ?_ ?_ (by decide)
    · unfold L_lines H_lines
      rw [reqA_no h.1 hf]
      rfl
    · show M_lines _ _ _ = _
      unfold M_lines M_lines_c22
      rw [is_no h.1 hf, Option.bind_some, if_pos rfl, refused_1]
      rfl
/-- descendants: the reference passes those up to a, then both go on alike -/
theorem head_desc (h : Inv M n) (g : Ag M M') {a : Nat} (ha : a < n) (R : Int32 × Me) (c : Int32) (F0 : Nat) : ∀ (d i F : Nat) (u : Nat → Int32), i + d = a + 1 → F = F0 + d → (∀ u', M_descendants_L29 F0 (Int32.ofNat a) c (Int32.ofNat (a + 1)) (uI M' 18 u') = M_descendants_L29 F0 (Int32.ofNat a) c (Int32.ofNat (a + 1)) (uI M' 18 u')) → ∃ u', M_descendants_L29 F (Int32.ofNat a) c (Int32.ofNat i) (uI M' 18 u) = M_descendants_L29 F0 (Int32.ofNat a) c (Int32.ofNat (a + 1)) (uI M' 18 u') := by
  have hn := h.1.1
  have hB' := IB_Ag g h
  intro d
  induction d with
  | zero =>
    intro i F u hi hF _
    have hi2 : i = a + 1 := by omega
    subst hi2
    rw [hF]
    exact ⟨u, rfl⟩
  | succ d ih =>
    intro i F u hi hF hx
    have hF2 : F = (F0 + d) + 1 := by omega
    subst hF2
    have hni : ¬ Int32.ofNat n ≤ Int32.ofNat i := by rw [of_le (by omega) (by omega)]; omega
    have gU : Ag M (uI M' 18 u) := Ag_tr g (Ag_uI M' u rfl)
    show ∃ u', M_descendants_b29 (M_descendants_L29 (F0 + d)) (Int32.ofNat a) c (Int32.ofNat i) (uI M' 18 u) = _
    unfold M_descendants_b29
    rw [show gF (uI M' 18 u) 5 = gF M' 5 from rfl, hB'.c, if_neg hni, of_s]
    by_cases hia : i = a
    · rw [if_pos (by rw [hia])]
      exact ih (i + 1) (F0 + d) u (by omega) rfl hx
    · obtain ⟨u2, k1⟩ := linesM h gU ha (show i < n by omega)
      rw [if_neg (fun q => hia ((of_eq (by omega) (by omega)).mp q)), k1, Option.bind_some, uI_uI, NL_low h.2.2.1 hn i (by omega) (by omega), if_pos (show (Int32.ofNat 0, uI M' 18 u2).1 ≤ 0 from (by decide : Int32.ofNat 0 ≤ 0))]
      exact ih (i + 1) (F0 + d) u2 (by omega) rfl hx
theorem twin_desc (h : Inv M n) (g : Ag M M') {a : Nat} (ha : a < n) : ∀ (d i F F' : Nat) (c : Int32) (u : Nat → Int32), i + d = n → a < i → d < F → d < F' → ∃ r u', P_progenyOf_L6 M F (Int32.ofNat a) c (Int32.ofNat i) = some r ∧ M_descendants_L29 F' (Int32.ofNat a) c (Int32.ofNat i) (uI M' 18 u) = some (r, uI M' 18 u') := by
  have hn := h.1.1
  have hB' := IB_Ag g h
  intro d
  induction d with
  | zero =>
    intro i F F' c u hi hai hF hF'
    obtain ⟨F, rfl⟩ := succ_of hF
    obtain ⟨F', rfl⟩ := succ_of hF'
    have hi2 : i = n := by omega
    subst hi2
    refine ⟨c, u, ?_, ?_⟩
    · show P_progenyOf_b6 _ _ _ _ _ = _
      unfold P_progenyOf_b6
      rw [h.1.s, if_pos (Int32.le_refl _)]
    · show M_descendants_b29 _ _ _ _ _ = _
      unfold M_descendants_b29
      rw [show gF (uI M' 18 u) 5 = gF M' 5 from rfl, hB'.c, if_pos (Int32.le_refl _)]
  | succ d ih =>
    intro i F F' c u hi hai hF hF'
    obtain ⟨F, rfl⟩ := succ_of hF
    obtain ⟨F', rfl⟩ := succ_of hF'
    have hni : ¬ Int32.ofNat n ≤ Int32.ofNat i := by rw [of_le (by omega) (by omega)]; omega
    have gU : Ag M (uI M' 18 u) := Ag_tr g (Ag_uI M' u rfl)
    have hin : i < n := by omega
    obtain ⟨u2, k1⟩ := linesM h gU ha hin
    have hlt := NL_lt h.2.2.1 hn (f := a) hin
    have hbit := FB_bits h.2.2.1 hn i hin a (by omega)
    show ∃ r u', P_progenyOf_b6 M (P_progenyOf_L6 M F) (Int32.ofNat a) c (Int32.ofNat i) = some r ∧ M_descendants_b29 (M_descendants_L29 F') (Int32.ofNat a) c (Int32.ofNat i) (uI M' 18 u) = some (r, uI M' 18 u')
    unfold P_progenyOf_b6 M_descendants_b29
    rw [h.1.s, if_neg hni, show gF (uI M' 18 u) 5 = gF M' 5 from rfl, hB'.c, if_neg hni, of_s, gd_in (by omega) (by omega), gI_of M 3 (by omega), (h.2.2.2.2.2.2.1 i hin).2, if_neg (fun q => absurd ((of_eq (by omega) (by omega)).mp q) (by omega)), k1, Option.bind_some, uI_uI]
    by_cases hz : NL (M.1 0) (M.1 1) a n i = 0
    · rw [if_pos ((tst0 (by omega)).mpr (by rw [hbit, hz]; simp)), if_pos ((pos_of hlt).mpr hz)]
      exact ih (i + 1) F F' c u2 (by omega) (by omega) (by omega) (by omega)
    · rw [if_neg (fun q => by have q2 := (tst0 (by omega)).mp q; rw [hbit] at q2; simp [hai, Nat.pos_of_ne_zero hz] at q2), if_neg (fun q => hz ((pos_of hlt).mp q))]
      exact ih (i + 1) F F' _ u2 (by omega) (by omega) (by omega) (by omega)
theorem sim_descendants (h : Inv M n) (a : Int32) : SimI (L_descendants M a) (fun M1 => M_descendants M1 a) n := by
  have hn := h.1.1
  rcases isA_cases n hn a with ⟨i, hi, rfl⟩ | ha
  · obtain ⟨r, u0, q1, -⟩ := twin_desc h (Ag_rf M) hi (n - (i + 1)) (i + 1) 64 64 0 (M.1 18) (by omega) (by omega) (by omega) (by omega)
    have gB := Ag_70 M r.toInt64
    obtain ⟨u1, q2⟩ := head_desc h gB hi (r, M) 0 (64 - (i + 1)) (i + 1) 0 64 ((sF (sL M 7 0 r.toInt64) 4 0).1 18) (by omega) (by omega) (fun _ => rfl)
    obtain ⟨r2, u2, q3, q4⟩ := twin_desc h gB hi (n - (i + 1)) (i + 1) 64 (64 - (i + 1)) 0 u1 (by omega) (by omega) (by omega) (by omega)
    rw [q1] at q3
    cases q3
    rw [uI_id, q4] at q2
    have hB := IB_Ag (Ag_7 M r.toInt64) h
    refine simI_ok (Mx := M) (r := r) (M2 := uI (sF (sL M 7 0 r.toInt64) 4 0) 18 u2) ?_ ?_ rfl rfl (Inv_Ag (Ag_tr gB (Ag_uI _ u2 rfl)) h)
    · unfold L_descendants H_descendants P_progenyOf
      rw [reqA_ok h.1 hi, thrP_ok, of_s, q1]
      rfl
    · show M_descendants _ _ = _
      unfold M_descendants M_descendants_c14
      rw [is_ok hB hi, Option.bind_some, if_neg (by decide), refused_0, Option.bind_some, if_pos rfl]
      exact q2
  · refine simI_er 1 h ?_ ?_ (by decide)
    · unfold L_descendants H_descendants
      rw [reqA_no h.1 ha]
      rfl
    · show M_descendants _ _ = _
      unfold M_descendants M_descendants_c14
      rw [is_no h.1 ha, Option.bind_some, if_pos rfl, refused_1]
      rfl
theorem twin_near (h : Inv M n) (g : Ag M M') (w : Int32) : ∀ (d i F F' : Nat) (c : Int32) (u : Nat → Int32), i + d = n → d < F → d < F' → ∃ r u', P_nearestCommon_L18 M F w c (Int32.ofNat i) = some r ∧ M_nearest_L59 F' w c (Int32.ofNat i) (uI M' 18 u) = some (r, uI M' 18 u') := by
  have hn := h.1.1
  have hB' := IB_Ag g h
  intro d
  induction d with
  | zero =>
    intro i F F' c u hi hF hF'
    obtain ⟨F, rfl⟩ := succ_of hF
    obtain ⟨F', rfl⟩ := succ_of hF'
    have hi2 : i = n := by omega
    subst hi2
    refine ⟨c, u, ?_, ?_⟩
    · show P_nearestCommon_b18 _ _ _ _ _ = _
      unfold P_nearestCommon_b18
      rw [h.1.s, if_pos (Int32.le_refl _)]
    · show M_nearest_b59 _ _ _ _ _ = _
      unfold M_nearest_b59
      rw [show gF (uI M' 18 u) 5 = gF M' 5 from rfl, hB'.c, if_pos (Int32.le_refl _)]
  | succ d ih =>
    intro i F F' c u hi hF hF'
    obtain ⟨F, rfl⟩ := succ_of hF
    obtain ⟨F', rfl⟩ := succ_of hF'
    have hni : ¬ Int32.ofNat n ≤ Int32.ofNat i := by rw [of_le (by omega) (by omega)]; omega
    have gU : Ag M (uI M' 18 u) := Ag_tr g (Ag_uI M' u rfl)
    have hin : i < n := by omega
    show ∃ r u', P_nearestCommon_b18 M (P_nearestCommon_L18 M F) w c (Int32.ofNat i) = some r ∧ M_nearest_b59 (M_nearest_L59 F') w c (Int32.ofNat i) (uI M' 18 u) = some (r, uI M' 18 u')
    unfold P_nearestCommon_b18 M_nearest_b59
    rw [h.1.s, if_neg hni, show gF (uI M' 18 u) 5 = gF M' 5 from rfl, hB'.c, if_neg hni, of_s]
    by_cases hb : bt w i = true
    · obtain ⟨u2, k1⟩ := ancM h gU hin
      rw [if_neg (fun q => by rw [(tst0 (by omega)).mp q] at hb; cases hb), if_pos ((tst1 (by omega)).mpr hb), k1, Option.bind_some, uI_uI, gd_in (by omega) (by omega), gI_of M 3 (by omega), (h.2.2.2.2.2.2.1 i hin).2]
      exact ih (i + 1) F F' _ u2 (by omega) (by omega) (by omega)
    · have hb2 : bt w i = false := by simpa using hb
      rw [if_pos ((tst0 (by omega)).mpr hb2), if_neg (fun q => hb ((tst1 (by omega)).mp q))]
      exact ih (i + 1) F F' c u (by omega) (by omega) (by omega)
theorem withFB_v (h : Inv M n) {a : Nat} (ha : a < n) : P_withForebears M (Int32.ofNat a) = some (FB M n a ||| ((1 : Int32) <<< (Int32.ofNat a &&& 31))) := by
  have hn := h.1.1
  unfold P_withForebears
  rw [if_neg (of_nm1 (by omega)), gd_in (by omega) (by omega), gI_of M 3 (by omega), (h.2.2.2.2.2.2.1 a ha).2]
theorem sim_nearest (h : Inv M n) (a b : Int32) : SimI (L_nearest M a b) (fun M1 => M_nearest M1 a b) n := by
  have hn := h.1.1
  rcases isA_cases n hn a with ⟨i, hi, rfl⟩ | ha
  · rcases isA_cases n hn b with ⟨j, hj, rfl⟩ | hb
    · obtain ⟨r, u0, q1, -⟩ := twin_near h (Ag_rf M) ((FB M n i ||| ((1 : Int32) <<< (Int32.ofNat i &&& 31))) &&& (FB M n j ||| ((1 : Int32) <<< (Int32.ofNat j &&& 31)))) n 0 64 64 ((FB M n i ||| ((1 : Int32) <<< (Int32.ofNat i &&& 31))) &&& (FB M n j ||| ((1 : Int32) <<< (Int32.ofNat j &&& 31)))) (M.1 18) (by omega) (by omega) (by omega)
      have gB := Ag_70 M r.toInt64
      obtain ⟨u1, k1⟩ := ancM h gB hi
      have gU : Ag M (uI (sF (sL M 7 0 r.toInt64) 4 0) 18 u1) := Ag_tr gB (Ag_uI _ u1 rfl)
      obtain ⟨u2, k2⟩ := ancM h gU hj
      obtain ⟨r2, u3, q3, q4⟩ := twin_near h gB ((FB M n i ||| ((1 : Int32) <<< (Int32.ofNat i &&& 31))) &&& (FB M n j ||| ((1 : Int32) <<< (Int32.ofNat j &&& 31)))) n 0 64 64 ((FB M n i ||| ((1 : Int32) <<< (Int32.ofNat i &&& 31))) &&& (FB M n j ||| ((1 : Int32) <<< (Int32.ofNat j &&& 31)))) u2 (by omega) (by omega) (by omega)
      rw [q1] at q3
      cases q3
      have hB := IB_Ag (Ag_7 M r.toInt64) h
      refine simI_ok (Mx := M) (r := r) (M2 := uI (sF (sL M 7 0 r.toInt64) 4 0) 18 u3) ?_ ?_ rfl rfl (Inv_Ag (Ag_tr gB (Ag_uI _ u3 rfl)) h)
      · unfold L_nearest H_nearest P_nearestCommon
        rw [reqA_ok h.1 hi, thrP_ok, reqA_ok h.1 hj, thrP_ok, withFB_v h hi, Option.bind_some, withFB_v h hj, Option.bind_some]
        show ab_thrP (Option.bind (P_nearestCommon_L18 M 64 _ _ (Int32.ofNat 0)) _) _ _ = _
        rw [q1]
        rfl
      · show M_nearest _ _ _ = _
        unfold M_nearest M_nearest_c22
        rw [is_ok hB hi, Option.bind_some, if_neg (by decide), is_ok hB hj, Option.bind_some, if_neg (by decide), refused_0, Option.bind_some, if_pos rfl]
        show Option.bind (M_ancestorsOf (sF (sL M 7 0 r.toInt64) 4 0) (Int32.ofNat i)) _ = _
        rw [k1, Option.bind_some]
        show Option.bind (M_ancestorsOf (uI (sF (sL M 7 0 r.toInt64) 4 0) 18 u1) (Int32.ofNat j)) _ = _
        rw [k2, Option.bind_some, uI_uI]
        exact q4
    · refine simI_er 1 h ?_ ?_ (by decide)
      · unfold L_nearest H_nearest
        rw [reqA_ok h.1 hi, thrP_ok, reqA_no h.1 hb]
        rfl
      · show M_nearest _ _ _ = _
        unfold M_nearest M_nearest_c22
        rw [is_ok h.1 hi, Option.bind_some, if_neg (by decide), is_no h.1 hb, Option.bind_some, if_pos rfl, refused_1]
        rfl
  · refine simI_er 1 h ?_ ?_ (by decide)
    · unfold L_nearest H_nearest
      rw [reqA_no h.1 ha]
      rfl
    · show M_nearest _ _ _ = _
      unfold M_nearest M_nearest_c22
      rw [is_no h.1 ha, Option.bind_some, if_pos rfl, refused_1]
      rfl
end LINES
