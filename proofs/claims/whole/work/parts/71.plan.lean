/-! plan: cows, begin, search, write -/
section PLAN1
def cwf (v : Int32) : Nat → Nat → Nat
  | 0 => fun _ => 0
  | i + 1 => fun j => if bt v i = true ∧ j = cwc v i then i else cwf v i j
variable {v : Int32} {n : Nat}
theorem cwc_s (v : Int32) (i : Nat) : cwc v (i + 1) = cwc v i + (if bt v i = true then 1 else 0) := rfl
theorem cwf_s (v : Int32) (i j : Nat) : cwf v (i + 1) j = if bt v i = true ∧ j = cwc v i then i else cwf v i j := rfl
theorem cwf_lt : ∀ i t, t < cwc v i → cwf v i t < i := by
  intro i
  induction i with
  | zero => intro t ht; exact absurd ht (Nat.not_lt_zero t)
  | succ i ih =>
    intro t ht
    rw [cwc_s] at ht
    rw [cwf_s]
    by_cases q : bt v i = true ∧ t = cwc v i
    · rw [if_pos q]; omega
    · rw [if_neg q]
      have : t < cwc v i := by
        by_cases w : bt v i = true
        · rw [if_pos w] at ht
          have : ¬ t = cwc v i := fun z => q ⟨w, z⟩
          omega
        · rw [if_neg w] at ht
          exact ht
      have := ih t this
      omega
theorem cwf_same {i : Nat} : ∀ d, cwc v (i + d) = cwc v i → cwf v (i + d) = cwf v i := by
  intro d
  induction d with
  | zero => intro _; rfl
  | succ d ih =>
    intro h
    have e : cwc v (i + (d + 1)) = cwc v (i + d) + (if bt v (i + d) = true then 1 else 0) := rfl
    have m := cwc_mono v (i := i) d
    have hb : ¬ bt v (i + d) = true := fun w => by
      rw [if_pos w] at e
      omega
    rw [if_neg hb] at e
    rw [← ih (by omega)]
    funext j
    show (if bt v (i + d) = true ∧ j = cwc v (i + d) then i + d else cwf v (i + d) j) = _
    rw [if_neg (fun q => hb q.1)]
theorem cwf_eq {i j : Nat} (h : cwc v i = cwc v j) : cwf v i = cwf v j := by
  rcases Nat.le_total i j with q | q
  · obtain ⟨d, rfl⟩ := Nat.exists_eq_add_of_le q
    exact (cwf_same d h.symm).symm
  · obtain ⟨d, rfl⟩ := Nat.exists_eq_add_of_le q
    exact cwf_same d h
theorem cwc_hi (hz : ∀ k, n ≤ k → k < 32 → bt v k = false) : ∀ d, n + d ≤ 32 → cwc v (n + d) = cwc v n := by
  intro d
  induction d with
  | zero => intro _; rfl
  | succ d ih =>
    intro h
    show cwc v (n + d) + (if bt v (n + d) = true then 1 else 0) = _
    rw [hz (n + d) (by omega) (by omega), ih (by omega), if_neg (by decide), Nat.add_zero]
theorem beginL (hn : n ≤ 24) (hz : ∀ k, n ≤ k → k < 32 → bt v k = false) (h5 : cwc v 32 ≤ 5) (l : Int32) (mo : Int64) : ∀ (e i F : Nat) (M : Me), i + e = 24 → e < F → M.2.2.1 2 = Int32.ofNat (cwc v i) → (∀ t, t < cwc v i → M.1 9 t = Int32.ofNat (cwf v i t)) → ∃ M' : Me, B_begin_L8 F v l mo (Int32.ofNat i) M = B_begin_c59 l mo M' ∧ (∀ x, ¬ x = 9 → M'.1 x = M.1 x) ∧ M'.2.1 = M.2.1 ∧ (∀ x, ¬ x = 2 → M'.2.2.1 x = M.2.2.1 x) ∧ M'.2.2.1 2 = Int32.ofNat (cwc v n) ∧ ∀ t, t < cwc v n → M'.1 9 t = Int32.ofNat (cwf v n t) := by
  have fin : ∀ (i : Nat) (M : Me), cwc v i = cwc v n → M.2.2.1 2 = Int32.ofNat (cwc v i) → (∀ t, t < cwc v i → M.1 9 t = Int32.ofNat (cwf v i t)) → (∀ x, ¬ x = 9 → M.1 x = M.1 x) ∧ M.2.1 = M.2.1 ∧ (∀ x, ¬ x = 2 → M.2.2.1 x = M.2.2.1 x) ∧ M.2.2.1 2 = Int32.ofNat (cwc v n) ∧ ∀ t, t < cwc v n → M.1 9 t = Int32.ofNat (cwf v n t) := fun i M h1 h2 h3 => by
    rw [cwf_eq h1, h1] at h3
    rw [h1] at h2
    exact ⟨fun _ _ => rfl, rfl, fun _ _ => rfl, h2, h3⟩
  have e32 : cwc v n = cwc v 32 := by
    have := cwc_hi hz (32 - n) (by omega)
    rw [show n + (32 - n) = 32 by omega] at this
    exact this.symm
  intro e
  induction e with
  | zero =>
    intro i F M hi hF h2 h9
    obtain ⟨F, rfl⟩ := succ_of hF
    have hi2 : i = 24 := by omega
    subst hi2
    refine ⟨M, ?_, fin 24 M ?_ h2 h9⟩
    · show B_begin_b8 _ _ _ _ _ _ = _
      unfold B_begin_b8
      rw [if_pos (by decide)]
    · have := cwc_hi hz (24 - n) (by omega)
      rw [show n + (24 - n) = 24 by omega] at this
      exact this
  | succ e ih =>
    intro i F M hi hF h2 h9
    obtain ⟨F, rfl⟩ := succ_of hF
    have e0 : B_begin_L8 (F + 1) v l mo (Int32.ofNat i) M = B_begin_b8 (B_begin_L8 F) v l mo (Int32.ofNat i) M := rfl
    rw [e0]
    unfold B_begin_b8
    have h2' : gF M 2 = Int32.ofNat (cwc v i) := h2
    have hci : cwc v i ≤ cwc v 32 := by
      have := cwc_mono v (i := i) (32 - i)
      rw [show i + (32 - i) = 32 by omega] at this
      exact this
    rw [if_neg (show ¬ (24 : Int32) ≤ Int32.ofNat i from fun q => by have := (of_le (a := 24) (by omega) (by omega)).mp q; omega), h2']
    by_cases h55 : 5 ≤ cwc v i
    · rw [if_pos (show (5 : Int32) ≤ Int32.ofNat (cwc v i) from (of_le (a := 5) (by omega) (by omega)).mpr h55)]
      refine ⟨M, rfl, fin i M ?_ h2 h9⟩
      omega
    · rw [if_neg (show ¬ (5 : Int32) ≤ Int32.ofNat (cwc v i) from fun q => h55 ((of_le (a := 5) (by omega) (by omega)).mp q)), of_s]
      cases hb : bt v i
      · rw [if_pos ((tst0 (by omega)).mpr hb)]
        have ec : cwc v (i + 1) = cwc v i := by rw [cwc_s, hb, if_neg (by decide)]; rfl
        exact ih (i + 1) F M (by omega) (by omega) (by rw [ec]; exact h2) (by rw [cwf_eq ec, ec]; exact h9)
      · rw [if_neg (fun q => by rw [(tst0 (by omega)).mp q] at hb; exact absurd hb (by decide)), gd_in (by omega) (by omega)]
        have ec : cwc v (i + 1) = cwc v i + 1 := by rw [cwc_s, hb, if_pos rfl]
        have ef : gF (sI M 9 (Int32.ofNat (cwc v i)) (Int32.ofNat i)) 2 + 1 = Int32.ofNat (cwc v (i + 1)) := by
          rw [ec, ← of_s]
          show M.2.2.1 2 + 1 = _
          rw [h2]
        rw [ef]
        obtain ⟨M', r1, r2, r3, r4, r5, r6⟩ := ih (i + 1) F (sF (sI M 9 (Int32.ofNat (cwc v i)) (Int32.ofNat i)) 2 (Int32.ofNat (cwc v (i + 1)))) (by omega) (by omega) rfl (fun t ht => by
          show upd (M.1 9) (Int32.ofNat (cwc v i)).toNatClampNeg (Int32.ofNat i) t = _
          rw [of_cl (by omega), cwf_s]
          show (if t = cwc v i then Int32.ofNat i else M.1 9 t) = _
          by_cases q : t = cwc v i
          · rw [if_pos q, if_pos ⟨hb, q⟩]
          · rw [if_neg q, if_neg (fun w => q w.2)]
            exact h9 t (by omega))
        refine ⟨M', r1, fun x hx => ?_, r3, fun x hx => ?_, r5, r6⟩
        · rw [r2 x hx]
          exact if_neg hx
        · rw [r4 x hx]
          exact if_neg hx
theorem begin_v (hn : n ≤ 24) (hz : ∀ k, n ≤ k → k < 32 → bt v k = false) (h5 : cwc v 32 ≤ 5) (l : Int32) (mo : Int64) (M : Me) : ∃ M' : Me, B_begin M v l mo = some M' ∧ (∀ x, ¬ x = 9 → ¬ x = 10 → M'.1 x = M.1 x) ∧ (∀ x, ¬ x = 2 → M'.2.1 x = M.2.1 x) ∧ (∀ x, ¬ x = 2 → ¬ x = 3 → M'.2.2.1 x = M.2.2.1 x) ∧ M'.2.2.1 2 = Int32.ofNat (cwc v n) ∧ M'.2.2.1 3 = l ∧ M'.2.2.2 0 = mo ∧ (∀ t, t < cwc v n → M'.1 9 t = Int32.ofNat (cwf v n t)) ∧ (∀ s, s < 32 → M'.2.1 2 s = if s = 0 then 0 else -1) ∧ M'.1 10 0 = 0 := by
  obtain ⟨M1, r1, r2, r3, r4, r5, r6⟩ := beginL hn hz h5 l mo 24 0 64 (sF M 2 0) (by omega) (by omega) rfl (fun t ht => absurd ht (Nat.not_lt_zero t))
  refine ⟨sI (sL (fL (sG (sF M1 3 l) 0 mo) 2 32 (-1 : Int64)) 2 (0 : Int32) (0 : Int64)) 10 (0 : Int32) (0 : Int32), ?_, fun x h9 h10 => ?_, fun x h2 => ?_, fun x h2 h3 => ?_, r5, rfl, rfl, r6, fun s hs => ?_, rfl⟩
  · unfold B_begin
    have r1' : B_begin_L8 64 v l mo 0 (sF M 2 0) = B_begin_c59 l mo M1 := r1
    rw [r1']
    rfl
  · show (if x = 10 then _ else M1.1 x) = _
    rw [if_neg h10, r2 x h9]
    rfl
  · show (if x = 2 then _ else if x = 2 then _ else M1.2.1 x) = _
    rw [if_neg h2, if_neg h2, r3]
    rfl
  · show (if x = 3 then _ else M1.2.2.1 x) = _
    rw [if_neg h3, r4 x h2]
    exact if_neg h2
  · show (if s = 0 then (0 : Int64) else if s < 32 then -1 else M1.2.1 2 s) = _
    rw [if_pos hs]
def wb (cw : Nat → Nat) (w base : Nat → Int32) : Nat → Nat → Int32
  | 0 => base
  | i + 1 => upd (wb cw w base i) (cw i) (w i)
theorem writeL {m : Nat} {cw : Nat → Nat} {w base : Nat → Int32} {code : Int32} (hm : m ≤ 5) (hn : n ≤ 24) (hd : ∀ i, i < m → (code >>> (((5 : Int32) * ((4 : Int32) - Int32.ofNat i)) &&& 31)) &&& 31 = w i) : ∀ (e i F : Nat) (M : Me), i + e = m → e < F → M.2.2.1 2 = Int32.ofNat m → (∀ i, i < m → M.1 9 i = Int32.ofNat (cw i) ∧ cw i < n) → M.1 8 = wb cw w base i → ∃ M' : Me, B_writeBulls_L12 F code (Int32.ofNat i) M = some M' ∧ (∀ x, ¬ x = 8 → M'.1 x = M.1 x) ∧ M'.2 = M.2 ∧ M'.1 8 = wb cw w base m := by
  intro e
  induction e with
  | zero =>
    intro i F M hi hF h2 h9 h8
    obtain ⟨F, rfl⟩ := succ_of hF
    have hi2 : i = m := by omega
    subst hi2
    refine ⟨M, ?_, fun _ _ => rfl, rfl, h8⟩
    show B_writeBulls_b12 _ _ _ _ = _
    unfold B_writeBulls_b12
    rw [show gF M 2 = Int32.ofNat i from h2, if_pos (Int32.le_refl _)]
  | succ e ih =>
    intro i F M hi hF h2 h9 h8
    obtain ⟨F, rfl⟩ := succ_of hF
    obtain ⟨c1, c2⟩ := h9 i (by omega)
    obtain ⟨M', r1, r2, r3, r4⟩ := ih (i + 1) F (sI M 8 (Int32.ofNat (cw i)) (w i)) (by omega) (by omega) h2 h9 (by
      show upd (M.1 8) (Int32.ofNat (cw i)).toNatClampNeg (w i) = _
      rw [of_cl (by omega), h8]
      rfl)
    refine ⟨M', ?_, fun x hx => ?_, r3, r4⟩
    · rw [← r1]
      show B_writeBulls_b12 _ _ _ _ = _
      unfold B_writeBulls_b12 B_shiftOf
      rw [show gF M 2 = Int32.ofNat m from h2, if_neg (by rw [of_le (by omega) (by omega)]; omega), gd_in (by omega) (by omega), Option.bind_some, gI_of M 9 (by omega), c1, gd_in (by omega) (by omega), hd i (by omega), of_s]
    · rw [r2 x hx]
      exact if_neg hx
theorem listL {m : Nat} {cw : Nat → Nat} {w base : Nat → Int32} (hm : m ≤ 5) (hn : n ≤ 24) (s : Int64) : ∀ (e i F : Nat) (M : Me), i + e = m → e < F → M.2.2.1 7 = Int32.ofNat m → M.2.2.1 6 = 1 → (∀ i, i < m → M.1 20 i = Int32.ofNat (cw i) ∧ cw i < n) → (∀ i, i < m → M.1 22 i = w i) → M.1 19 = wb cw w base i → ∃ M' : Me, M_plan_L224 F s (Int32.ofNat i) M = some (s, M') ∧ (∀ x, ¬ x = 19 → M'.1 x = M.1 x) ∧ M'.2 = M.2 ∧ M'.1 19 = wb cw w base m := by
  intro e
  induction e with
  | zero =>
    intro i F M hi hF h7 h6 h20 h22 h19
    obtain ⟨F, rfl⟩ := succ_of hF
    have hi2 : i = m := by omega
    subst hi2
    refine ⟨M, ?_, fun _ _ => rfl, rfl, h19⟩
    show M_plan_b224 _ _ _ _ = _
    unfold M_plan_b224
    rw [show gF M 7 = Int32.ofNat i from h7, if_pos (Int32.le_refl _)]
  | succ e ih =>
    intro i F M hi hF h7 h6 h20 h22 h19
    obtain ⟨F, rfl⟩ := succ_of hF
    obtain ⟨c1, c2⟩ := h20 i (by omega)
    obtain ⟨M', r1, r2, r3, r4⟩ := ih (i + 1) F (sI M 19 (Int32.ofNat (cw i)) (w i)) (by omega) (by omega) h7 h6 h20 h22 (by
      show upd (M.1 19) (Int32.ofNat (cw i)).toNatClampNeg (w i) = _
      rw [of_cl (by omega), h19]
      rfl)
    refine ⟨M', ?_, fun x hx => ?_, r3, r4⟩
    · rw [← r1]
      show M_plan_b224 _ _ _ _ = _
      unfold M_plan_b224
      rw [show gF M 7 = Int32.ofNat m from h7, if_neg (by rw [of_le (by omega) (by omega)]; omega), show gF M 6 = 1 from h6, if_neg (by decide), gd_in (by omega) (by omega), gd_in (by omega) (by omega), gI_of M 20 (by omega), gI_of M 22 (by omega), c1, h22 i (by omega), gd_in (by omega) (by omega), of_s]
    · rw [r2 x hx]
      exact if_neg hx
/-- the reference's memory, ready to search -/
theorem readyL (hn : n ≤ 24) (hz : ∀ k, n ≤ k → k < 32 → bt v k = false) (h5 : cwc v 32 ≤ 5) (l : Int32) (mo : Int64) : ∀ (e i F : Nat) (M : Me), i + e = n → e < F → M.2.2.1 5 = Int32.ofNat n → M.2.2.1 7 = Int32.ofNat (cwc v i) → (∀ t, t < cwc v i → M.1 20 t = Int32.ofNat (cwf v i t)) → (∀ j, j < i → M.1 19 j = -1) → ∃ M' : Me, M_plan_L143 F v l mo (Int32.ofNat i) M = Option.bind (M_findBest M' l mo) (fun r3 => if r3.1 < (0 : Int64) then (M_plan_L224 64 r3.1 (0 : Int32) (sF r3.2 6 (0 : Int32))) else (M_plan_L224 64 r3.1 (0 : Int32) (sF r3.2 6 (1 : Int32)))) ∧ (∀ x, ¬ x = 19 → ¬ x = 20 → M'.1 x = M.1 x) ∧ M'.2.1 = M.2.1 ∧ (∀ x, ¬ x = 7 → M'.2.2.1 x = M.2.2.1 x) ∧ M'.2.2.1 7 = Int32.ofNat (cwc v n) ∧ (∀ t, t < cwc v n → M'.1 20 t = Int32.ofNat (cwf v n t)) ∧ (∀ j, j < n → M'.1 19 j = -1) ∧ ∀ j, n ≤ j → M'.1 19 j = M.1 19 j := by
  intro e
  induction e with
  | zero =>
    intro i F M hi hF f5 f7 h20 h19
    obtain ⟨F, rfl⟩ := succ_of hF
    have hi2 : i = n := by omega
    subst hi2
    refine ⟨M, ?_, fun _ _ _ => rfl, rfl, fun _ _ => rfl, f7, h20, h19, fun _ _ => rfl⟩
    show M_plan_b143 _ _ _ _ _ _ = _
    unfold M_plan_b143
    rw [show gF M 5 = Int32.ofNat i from f5, if_pos (Int32.le_refl _)]
  | succ e ih =>
    intro i F M hi hF f5 f7 h20 h19
    obtain ⟨F, rfl⟩ := succ_of hF
    have e0 : M_plan_L143 (F + 1) v l mo (Int32.ofNat i) M = M_plan_b143 (M_plan_L143 F) v l mo (Int32.ofNat i) M := rfl
    rw [e0]
    unfold M_plan_b143
    have hci : cwc v (i + 1) ≤ cwc v 32 := by
      have := cwc_mono v (i := i + 1) (31 - i)
      rw [show i + 1 + (31 - i) = 32 by omega] at this
      exact this
    rw [show gF M 5 = Int32.ofNat n from f5, if_neg (by rw [of_le (by omega) (by omega)]; omega), gd_in (by omega) (by omega), of_s]
    have e19 : ∀ j, (sI M 19 (Int32.ofNat i) (-1)).1 19 j = if j = i then -1 else M.1 19 j := fun j => by
      show upd (M.1 19) (Int32.ofNat i).toNatClampNeg (-1) j = _
      rw [of_cl (by omega)]
      rfl
    cases hb : bt v i
    · rw [if_neg (fun q => by rw [(tst1 (by omega)).mp q] at hb; exact absurd hb (by decide))]
      have ec : cwc v (i + 1) = cwc v i := by rw [cwc_s, hb, if_neg (by decide)]; rfl
      obtain ⟨M', r1, r2, r3, r4, r5, r6, r7, r8⟩ := ih (i + 1) F (sI M 19 (Int32.ofNat i) (-1)) (by omega) (by omega) f5 (by rw [ec]; exact f7) (by rw [cwf_eq ec, ec]; exact h20) (fun j hj => by
        rw [e19]
        by_cases q : j = i
        · rw [if_pos q]
        · rw [if_neg q]; exact h19 j (by omega))
      refine ⟨M', r1, fun x h1 h2 => ?_, r3, r4, r5, r6, r7, fun j hj => ?_⟩
      · rw [r2 x h1 h2]; exact if_neg h1
      · rw [r8 j hj, e19, if_neg (by omega)]
    · rw [if_pos ((tst1 (by omega)).mpr hb)]
      have ec : cwc v (i + 1) = cwc v i + 1 := by rw [cwc_s, hb, if_pos rfl]
      have ef : gF (sI M 19 (Int32.ofNat i) (-1)) 7 = Int32.ofNat (cwc v i) := f7
      rw [ef, gd_in (by omega) (by omega)]
      have ef2 : gF (sI (sI M 19 (Int32.ofNat i) (-1)) 20 (Int32.ofNat (cwc v i)) (Int32.ofNat i)) 7 + 1 = Int32.ofNat (cwc v (i + 1)) := by
        rw [ec, ← of_s]
        show M.2.2.1 7 + 1 = _
        rw [f7]
      rw [ef2]
      obtain ⟨M', r1, r2, r3, r4, r5, r6, r7, r8⟩ := ih (i + 1) F (sF (sI (sI M 19 (Int32.ofNat i) (-1)) 20 (Int32.ofNat (cwc v i)) (Int32.ofNat i)) 7 (Int32.ofNat (cwc v (i + 1)))) (by omega) (by omega) f5 rfl (fun t ht => by
        show upd (M.1 20) (Int32.ofNat (cwc v i)).toNatClampNeg (Int32.ofNat i) t = _
        rw [of_cl (by omega), cwf_s]
        show (if t = cwc v i then Int32.ofNat i else M.1 20 t) = _
        by_cases q : t = cwc v i
        · rw [if_pos q, if_pos ⟨hb, q⟩]
        · rw [if_neg q, if_neg (fun w => q w.2)]
          exact h20 t (by omega)) (fun j hj => by
        show (sI M 19 (Int32.ofNat i) (-1)).1 19 j = _
        rw [e19]
        by_cases q : j = i
        · rw [if_pos q]
        · rw [if_neg q]; exact h19 j (by omega))
      refine ⟨M', r1, fun x h1 h2 => ?_, r3, fun x h7 => ?_, r5, r6, r7, fun j hj => ?_⟩
      · rw [r2 x h1 h2]
        show (if x = 20 then _ else if x = 19 then _ else M.1 x) = _
        rw [if_neg h2, if_neg h1]
      · rw [r4 x h7]
        exact if_neg h7
      · rw [r8 j hj]
        show (sI M 19 (Int32.ofNat i) (-1)).1 19 j = _
        rw [e19, if_neg (by omega)]
variable {m : Nat} {cw : Nat → Nat} {l mo : Nat} {kn : Nat → Nat → Nat} {bl : Nat → Bool}
theorem usedL (a4 a6 : Int64) (a8 : Int32) : ∀ (e i F : Nat) (M : Me), RX M m n cw l mo kn bl → i + e = n → e < F → (∀ j, j < i → M.1 23 j = 0) → ∃ M' : Me, M_findBest_L14 F (Int32.ofNat l) (Int64.ofNat mo) a4 a6 a8 (Int32.ofNat i) M = M_findBest_L40 64 (Int32.ofNat l) (Int64.ofNat mo) a4 a6 a8 0 M' ∧ FrS M M' ∧ ∀ j, j < n → M'.1 23 j = 0 := by
  intro e
  induction e with
  | zero =>
    intro i F M c hi hF h
    obtain ⟨F, rfl⟩ := succ_of hF
    have hi2 : i = n := by omega
    subst hi2
    refine ⟨M, ?_, FrS_rf M, h⟩
    show M_findBest_b14 _ _ _ _ _ _ _ _ = _
    unfold M_findBest_b14
    rw [c.f5, if_pos (Int32.le_refl _)]
  | succ e ih =>
    intro i F M c hi hF h
    have hn := c.hn
    obtain ⟨F, rfl⟩ := succ_of hF
    have fr : FrS M (sI M 23 (Int32.ofNat i) 0) := FrS_sI M _ _ (Or.inr (Or.inr rfl))
    obtain ⟨M', r1, r2, r3⟩ := ih (i + 1) F (sI M 23 (Int32.ofNat i) 0) (RX_Fr c fr) (by omega) (by omega) (fun j hj => by
      show upd (M.1 23) (Int32.ofNat i).toNatClampNeg 0 j = _
      rw [of_cl (by omega)]
      show (if j = i then 0 else M.1 23 j) = _
      by_cases q : j = i
      · rw [if_pos q]
      · rw [if_neg q]; exact h j (by omega))
    refine ⟨M', ?_, FrS_tr fr r2, r3⟩
    rw [← r1]
    show M_findBest_b14 _ _ _ _ _ _ _ _ = _
    unfold M_findBest_b14
    rw [c.f5, if_neg (by rw [of_le (by omega) (by omega)]; omega), gd_in (by omega) (by omega), of_s]
theorem triedL (a4 a6 : Int64) (a8 : Int32) : ∀ (e i F : Nat) (M : Me), RX M m n cw l mo kn bl → i + e = m → e < F → (∀ j, j < i → M.1 21 j = -1) → ∃ M' : Me, M_findBest_L40 F (Int32.ofNat l) (Int64.ofNat mo) a4 a6 a8 (Int32.ofNat i) M = M_findBest_L63 1000000000 (Int32.ofNat l) (Int64.ofNat mo) a4 a6 a8 M' ∧ FrS M M' ∧ M'.1 23 = M.1 23 ∧ ∀ j, j < m → M'.1 21 j = -1 := by
  intro e
  induction e with
  | zero =>
    intro i F M c hi hF h
    obtain ⟨F, rfl⟩ := succ_of hF
    have hi2 : i = m := by omega
    subst hi2
    refine ⟨M, ?_, FrS_rf M, rfl, h⟩
    show M_findBest_b40 _ _ _ _ _ _ _ _ = _
    unfold M_findBest_b40
    rw [c.f7, if_pos (Int32.le_refl _)]
  | succ e ih =>
    intro i F M c hi hF h
    have hm := c.hm
    obtain ⟨F, rfl⟩ := succ_of hF
    have fr : FrS M (sI M 21 (Int32.ofNat i) (-1)) := FrS_sI M _ _ (Or.inl rfl)
    obtain ⟨M', r1, r2, r3, r4⟩ := ih (i + 1) F (sI M 21 (Int32.ofNat i) (-1)) (RX_Fr c fr) (by omega) (by omega) (fun j hj => by
      show upd (M.1 21) (Int32.ofNat i).toNatClampNeg (-1) j = _
      rw [of_cl (by omega)]
      show (if j = i then -1 else M.1 21 j) = _
      by_cases q : j = i
      · rw [if_pos q]
      · rw [if_neg q]; exact h j (by omega))
    refine ⟨M', ?_, FrS_tr fr r2, r3, r4⟩
    rw [← r1]
    show M_findBest_b40 _ _ _ _ _ _ _ _ = _
    unfold M_findBest_b40
    rw [c.f7, if_neg (by rw [of_le (by omega) (by omega)]; omega), gd_in (by omega) (by omega), of_s]
theorem find_v {M : Me} (c : RX M m n cw l mo kn bl) : ∃ (v2 : Int64) (M2 : Me), M_findBest M (Int32.ofNat l) (Int64.ofNat mo) = some (v2, M2) ∧ FrS M M2 ∧ BS kn bl mo l m n 33554432 v2 M2 := by
  have hm := c.hm
  have hn := c.hn
  obtain ⟨M1, a1, a2, a3⟩ := usedL (-1) 0 0 n 0 64 M c (by omega) (by omega) (fun j hj => absurd hj (by omega))
  have c1 := RX_Fr c a2
  obtain ⟨M2, b1, b2, b3, b4⟩ := triedL (-1) 0 0 m 0 64 M1 c1 (by omega) (by omega) (fun j hj => absurd hj (by omega))
  have c2 := RX_Fr c1 b2
  have z1 : ∀ x, cu (fun _ => 0) x = 0 := fun x => by simp [cu, s5]
  have z2 : su kn (fun _ => 0) = 0 := by simp [su, s5]
  have z3 : pos (fun _ => 0) 0 = 0 := by simp [pos, c5]
  have go := search (m := m) (n := n) (cw := cw) (l := l) (mo := mo) (kn := kn) (bl := bl) 201326598 0 (fun _ => 0) 1000000000 M2 (-1) (by unfold mu; omega) (by omega) (by omega) c2 ⟨fun i hi => absurd hi (by omega), fun _ _ => rfl, fun i _ h => absurd (show 1 ≤ 0 from h) (by omega), fun x => by rw [z1]; omega⟩ (fun i hi => by rw [if_pos rfl]; exact b4 i hi) (fun x hx => by rw [b3, z1]; exact a3 x hx) (Or.inl ⟨rfl, fun f _ h => by rw [z3] at h; omega⟩) (fun _ => Or.inl (by decide))
  obtain ⟨v2, M3, g1, g2, g3⟩ := go
  refine ⟨v2, M3, ?_, FrS_tr a2 (FrS_tr b2 g2), g3⟩
  unfold M_findBest
  rw [z2] at g1
  exact a1.trans (b1.trans g1)
end PLAN1
