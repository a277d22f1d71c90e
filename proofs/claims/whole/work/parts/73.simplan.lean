/-! plan agrees -/
section PLAN3
variable {n : Nat}
theorem wb_eq {cw : Nat → Nat} {w w' base base' : Nat → Int32} {m : Nat} (hw : ∀ i, i < m → w i = w' i) (hb : ∀ j, j < 24 → base j = base' j) : ∀ i, i ≤ m → ∀ j, j < 24 → wb cw w base i j = wb cw w' base' i j := by
  intro i
  induction i with
  | zero => intro _ j hj; exact hb j hj
  | succ i ih =>
    intro hi j hj
    show (if j = cw i then w i else wb cw w base i j) = (if j = cw i then w' i else wb cw w' base' i j)
    rw [hw i (by omega), ih (by omega) j hj]
theorem wb_par {cw : Nat → Nat} {w base : Nat → Int32} {m : Nat} (hw : ∀ i, i < m → par (w i) n) (hc : ∀ i, i < m → cw i < n) (hb : ∀ j, j < 24 → base j = -1) : ∀ i, i ≤ m → ∀ j, j < 24 → par (wb cw w base i j) n ∧ (n ≤ j → wb cw w base i j = -1) := by
  intro i
  induction i with
  | zero => intro _ j hj; exact ⟨Or.inl (hb j hj), fun _ => hb j hj⟩
  | succ i ih =>
    intro hi j hj
    show par (if j = cw i then w i else wb cw w base i j) n ∧ (n ≤ j → (if j = cw i then w i else wb cw w base i j) = -1)
    by_cases q : j = cw i
    · have := hc i (by omega)
      rw [if_pos q]
      exact ⟨hw i (by omega), fun z => by omega⟩
    · rw [if_neg q]
      exact ih (by omega) j hj
theorem some_bit : ∀ t, t < 32 → ¬ t = 0 → ∃ i, i < 5 ∧ t.testBit i = true := by
  intro t ht h0
  by_cases h : ∃ i, i < 5 ∧ t.testBit i = true
  · exact h
  · refine absurd (ext32 t ht 0 (by omega) (fun i hi => ?_)) h0
    rw [Nat.zero_testBit]
    cases q : t.testBit i
    · rfl
    · exact absurd ⟨i, hi, q⟩ h
/-- kinship of the i-th cow with b, as a number -/
def knM (M : Me) (n : Nat) (cw : Nat → Nat) : Nat → Nat → Nat := fun i b => (Kt (M.1 0) (M.1 1) n (cw i) b).toNatClampNeg
def blM (M : Me) : Nat → Bool := fun b => decide (M.1 5 b = 0 ∧ M.1 7 b = 1)
theorem knM_v (M : Me) (n : Nat) (cw : Nat → Nat) (i b : Nat) : knM M n cw i b ≤ 1125899906842624 ∧ Kt (M.1 0) (M.1 1) n (cw i) b = Int64.ofNat (knM M n cw i b) := by
  obtain ⟨x, x1, x2⟩ := Kt_nat (S := M.1 0) (D := M.1 1) n (cw i) b
  have e : knM M n cw i b = x := by
    unfold knM
    rw [x2, l_cl (by omega)]
  rw [e]
  exact ⟨x1, x2⟩
theorem FE_zero {kn : Nat → Nat → Nat} {bl : Nat → Bool} {mo l : Nat} : FE kn bl mo l 0 0 (fun _ => 0) := ⟨fun i hi q => by rw [Nat.zero_testBit] at q; exact absurd q (by decide), fun x => by simp [ct, s5]⟩
theorem plan_class {M : Me} (h : Inv M n) {v : Int32} {l mo : Nat} (hl : l ≤ 8) (hmo : mo < 9223372036854775808) (hz : ∀ k, n ≤ k → k < 32 → bt v k = false) (h5 : cwc v 32 ≤ 5) : ∃ (val : Int64) (M3 : Me), Option.bind (B_begin M v (Int32.ofNat l) (Int64.ofNat mo)) (fun r14 => H_plan_L75 64 (0 : Int32) r14) = some (.ok val, M3) ∧ Fz M M3 ∧ M3.1 19 = M.1 19 ∧ M3.2.2.1 6 = M.2.2.1 6 ∧ ((val = -1 ∧ (∀ f, ¬ FE (knM M n (cwf v n)) (blM M) mo l n (2 ^ cwc v n - 1) f) ∧ M3.2.2.1 1 = 0 ∧ M3.1 8 = fun j => if j < 24 then -1 else M.1 8 j) ∨ ∃ f, FE (knM M n (cwf v n)) (blM M) mo l n (2 ^ cwc v n - 1) f ∧ val = Int64.ofNat (sk (knM M n (cwf v n)) (2 ^ cwc v n - 1) f) ∧ (∀ g, FE (knM M n (cwf v n)) (blM M) mo l n (2 ^ cwc v n - 1) g → key (knM M n (cwf v n)) (2 ^ cwc v n - 1) f ≤ key (knM M n (cwf v n)) (2 ^ cwc v n - 1) g) ∧ M3.2.2.1 1 = 1 ∧ M3.1 8 = wb (cwf v n) (fun i => Int32.ofNat (f i)) (fun j => if j < 24 then -1 else M.1 8 j) (cwc v n)) := by
  have hn := h.1.1
  obtain ⟨Mb, b1, b2, b3, b4, b5, b6, b7, b8, b9, b10⟩ := begin_v hn hz h5 (Int32.ofNat l) (Int64.ofNat mo) M
  have hm : cwc v n ≤ 5 := by
    have := cwc_mono v (i := n) (32 - n)
    rw [show n + (32 - n) = 32 by omega] at this
    omega
  have h32 := two_le hm
  have hpos : 0 < 2 ^ cwc v n := Nat.two_pow_pos _
  have rows : ∀ p q, P_kinOf Mb p q = P_kinOf M p q := fun p q => by
    unfold P_kinOf gR
    rw [b3 _ (by omega)]
  have cx : CX Mb (cwc v n) n (cwf v n) l mo (knM M n (cwf v n)) := ⟨hm, hn, b5, b6, hl, b7, hmo, fun i hi => ⟨b8 i hi, cwf_lt n i hi⟩, fun i hi b hb => by
      rw [rows, kinP h.1 h.2.2.2.2.1 (cwf_lt n i hi) hb, (knM_v M n (cwf v n) i b).2], fun i b => (knM_v M n (cwf v n) i b).1⟩
  have hliv : ∀ (M' : Me), FrB Mb M' → ∀ i, i < n → H_isLiving M' (Int32.ofNat i) 0 = some (if blM M i = true then 1 else 0) := fun M' fr i hi => by
    unfold H_isLiving blM
    rw [gd_in (by omega) (by omega), gd_in (by omega) (by omega), gI_of M' 7 (by omega), gI_of M' 5 (by omega), fr.1 7 (by decide) (by decide), fr.1 5 (by decide) (by decide), b2 7 (by decide) (by decide), b2 5 (by decide) (by decide)]
    rcases h.2.2.2.1.1 i hi with ⟨h7, -⟩ | ⟨h7, -⟩
    · rw [h7, if_neg (by decide)]
      by_cases q : M.1 5 i = 0
      · simp [q]
      · simp [q]
    · rw [h7, if_pos rfl]
      simp
  have base : ∀ t, t < 2 ^ cwc v n → CL (knM M n (cwf v n)) Mb (FE (knM M n (cwf v n)) (blM M) mo l 0 t) t := fun t ht => by
    by_cases t0 : t = 0
    · subst t0
      refine ⟨some (0, 0), ⟨?_, b10⟩, ⟨fun _ => 0, FE_zero, ?_, ?_, fun g _ => ?_⟩⟩
      · rw [b9 0 (by omega), if_pos rfl]; rfl
      · simp [sk, s5]
      · simp [cd, c5]
      · have z1 : ∀ g, key (knM M n (cwf v n)) 0 g = 0 := fun g => by simp [key, sk, cd, s5, c5]
        rw [z1, z1]
        exact Nat.le_refl _
    · refine ⟨none, ?_, fun f hf => ?_⟩
      · show Mb.2.1 2 t = -1
        rw [b9 t (by omega), if_neg t0]
      · obtain ⟨i, i1, i2⟩ := some_bit t (by omega) t0
        have := (hf.1 i i1 i2).1
        omega
  obtain ⟨M2, r1, r2, r3, r4⟩ := planL (bl := blM M) (M0' := Mb) hliv (by rw [b4 0 (by decide) (by decide)]; exact h.1.2.1) n 0 64 Mb (FrB_rf Mb) cx (by omega) (by omega) base
  obtain ⟨o, o1, o2⟩ := r4 (2 ^ cwc v n - 1) (by omega)
  have f2 : M2.2.2.1 2 = Int32.ofNat (cwc v n) := r3.f2
  have fzb : Fz M Mb := ⟨fun a x _ _ => b2 a (fun q => by rw [q] at x; exact absurd x (by decide)) (fun q => by rw [q] at x; exact absurd x (by decide)), fun a x => b3 a (fun q => by rw [q] at x; exact absurd x (by decide)), fun a x _ _ => b4 a (fun q => by rw [q] at x; exact absurd x (by decide)) (fun q => by rw [q] at x; exact absurd x (by decide))⟩
  have fz2 : Fz M M2 := Fz_tr fzb (Fz_FrB r2)
  have e8 : M2.1 8 = M.1 8 := by rw [r2.1 8 (by decide) (by decide), b2 8 (by decide) (by decide)]
  have e19 : M2.1 19 = M.1 19 := by rw [r2.1 19 (by decide) (by decide), b2 19 (by decide) (by decide)]
  have e6 : M2.2.2.1 6 = M.2.2.1 6 := by rw [r2.2.2, b4 6 (by decide) (by decide)]
  have least : ∀ M' : Me, M'.2.2.1 2 = Int32.ofNat (cwc v n) → B_leastSum M' = some (M'.2.1 2 (2 ^ cwc v n - 1)) := fun M' q => by
    unfold B_leastSum B_allCows
    rw [Option.bind_some, show gF M' 2 = Int32.ofNat (cwc v n) from q, all_of _ (by omega), gd_in (by omega) (by omega), gL_of M' 2 (by omega)]
  have r1' : H_plan_L75 64 (0 : Int32) Mb = Option.bind (H_keepList M2) (fun r5 => Option.bind (B_leastSum r5) (fun r7 => some (.ok r7, r5))) := r1
  rw [b1, Option.bind_some, r1']
  cases o with
  | none =>
    have o1' : M2.2.1 2 (2 ^ cwc v n - 1) = -1 := o1
    have hk : H_keepList M2 = some (sF (fI M2 8 24 (-1)) 1 0) := by
      unfold H_keepList
      rw [least (fI M2 8 24 (-1)) f2, Option.bind_some, if_pos (show (fI M2 8 24 (-1)).2.1 2 (2 ^ cwc v n - 1) = -1 from o1')]
      exact if_pos rfl
    refine ⟨-1, sF (fI M2 8 24 (-1)) 1 0, ?_, Fz_tr fz2 ⟨fun a _ x8 _ => if_neg x8, fun _ _ => rfl, fun a _ x1 _ => if_neg x1⟩, e19, e6, Or.inl ⟨rfl, o2, rfl, ?_⟩⟩
    · rw [hk, Option.bind_some, least (sF (fI M2 8 24 (-1)) 1 0) f2, Option.bind_some, show (sF (fI M2 8 24 (-1)) 1 0).2.1 2 (2 ^ cwc v n - 1) = -1 from o1']
    · show (fun j => if j < 24 then (-1 : Int32) else M2.1 8 j) = _
      rw [e8]
  | some o =>
    obtain ⟨x, y⟩ := o
    obtain ⟨o1a, o1b⟩ := o1
    obtain ⟨f, k1, k2, k3, k4⟩ := o2
    simp only at o1a o1b k2 k3
    have hx := sk_le (kn := knM M n (cwf v n)) (s := 2 ^ cwc v n - 1) (f := f) (fun i b => (knM_v M n (cwf v n) i b).1)
    have dgl : ∀ i, i < 5 → (if (2 ^ cwc v n - 1).testBit i = true then f i else 0) < 32 := fun i hi => by
      by_cases q : (2 ^ cwc v n - 1).testBit i = true
      · rw [if_pos q]
        have := (k1.1 i hi q).1
        omega
      · rw [if_neg q]; omega
    obtain ⟨M3, w1, w2, w3, w4⟩ := writeL (n := n) (m := cwc v n) (cw := cwf v n) (w := fun i => Int32.ofNat (f i)) (base := fun j => if j < 24 then -1 else M2.1 8 j) (code := Int32.ofNat (cd (2 ^ cwc v n - 1) f)) hm hn (fun i hi => by
      have q := code_dig dgl (j := i) (by omega)
      rw [all_bit _ (by omega) i (by omega), decide_eq_true hi, if_pos rfl] at q
      exact q) (cwc v n) 0 64 (sF (fI M2 8 24 (-1)) 1 1) (by omega) (by omega) f2 r3.hc rfl
    have hk : H_keepList M2 = some M3 := by
      unfold H_keepList
      rw [least (fI M2 8 24 (-1)) f2, Option.bind_some, if_neg (show ¬ (fI M2 8 24 (-1)).2.1 2 (2 ^ cwc v n - 1) = -1 from fun q => l_nm1 (show x < 9223372036854775808 by omega) (o1a.symm.trans q)), if_neg (show ¬ gF (sF (fI M2 8 24 (-1)) 1 1) 1 = 0 from fun q => absurd (show (1 : Int32) = 0 from q) (by decide))]
      unfold B_writeBulls B_allCows
      rw [Option.bind_some, show gF (sF (fI M2 8 24 (-1)) 1 1) 2 = Int32.ofNat (cwc v n) from f2, all_of _ (by omega), gd_in (by omega) (by omega), gI_of _ 10 (by omega), show (sF (fI M2 8 24 (-1)) 1 1).1 10 (2 ^ cwc v n - 1) = Int32.ofNat (cd (2 ^ cwc v n - 1) f) from by rw [← k3]; exact o1b]
      have w1' : B_writeBulls_L12 64 (Int32.ofNat (cd (2 ^ cwc v n - 1) f)) 0 (sF (fI M2 8 24 (-1)) 1 1) = some M3 := w1
      rw [w1']
      rfl
    have v2 : M3.2.1 2 (2 ^ cwc v n - 1) = Int64.ofNat x := by rw [w3]; exact o1a
    refine ⟨Int64.ofNat x, M3, ?_, Fz_tr fz2 ⟨fun a _ x8 _ => ?_, fun a _ => by rw [w3]; rfl, fun a _ x1 _ => ?_⟩, ?_, ?_, Or.inr ⟨f, k1, by rw [k2], k4, by rw [w3]; rfl, ?_⟩⟩
    · rw [hk, Option.bind_some, least M3 (by rw [w3]; exact f2), Option.bind_some, v2]
    · rw [w2 a x8]; exact if_neg x8
    · rw [w3]; exact if_neg x1
    · rw [w2 19 (by decide)]; exact e19
    · rw [w3]; exact e6
    · rw [w4, e8]
theorem plan_ref {M M4 : Me} (h : Inv M n) (g : Fz M M4) (e19 : M4.1 19 = M.1 19) {v : Int32} {l mo : Nat} (hl : l ≤ 8) (hmo : mo < 9223372036854775808) (hz : ∀ k, n ≤ k → k < 32 → bt v k = false) (h5 : cwc v 32 ≤ 5) : ∃ (v2 : Int64) (M7 : Me) (base : Nat → Int32), M_plan_L143 64 v (Int32.ofNat l) (Int64.ofNat mo) 0 (sF (sF M4 4 0) 7 0) = some (v2, M7) ∧ Fz M4 M7 ∧ M7.1 8 = M4.1 8 ∧ M7.2.2.1 1 = M4.2.2.1 1 ∧ M7.2.2.1 4 = 0 ∧ M7.2.1 7 = M4.2.1 7 ∧ (∀ j, j < 24 → base j = -1) ∧ ((v2 = -1 ∧ (∀ f, ¬ FL (knM M n (cwf v n)) (blM M) mo l (cwc v n) n f) ∧ M7.2.2.1 6 = 0 ∧ M7.1 19 = base) ∨ ∃ f, FL (knM M n (cwf v n)) (blM M) mo l (cwc v n) n f ∧ v2 = Int64.ofNat (sl5 (knM M n (cwf v n)) (cwc v n) f) ∧ (∀ g, FL (knM M n (cwf v n)) (blM M) mo l (cwc v n) n g → sl5 (knM M n (cwf v n)) (cwc v n) f * 33554432 + dl5 (cwc v n) f ≤ sl5 (knM M n (cwf v n)) (cwc v n) g * 33554432 + dl5 (cwc v n) g) ∧ M7.2.2.1 6 = 1 ∧ M7.1 19 = wb (cwf v n) (fun i => Int32.ofNat (f i)) base (cwc v n)) := by
  have hn := h.1.1
  have hc4 : M4.2.2.1 5 = Int32.ofNat n := by rw [g.2.2 5 rfl (by decide) (by decide)]; exact h.1.2.2
  have hm : cwc v n ≤ 5 := by
    have := cwc_mono v (i := n) (32 - n)
    rw [show n + (32 - n) = 32 by omega] at this
    omega
  obtain ⟨M5, r1, r2, r3, r4, r5, r6, r7, r8⟩ := readyL hn hz h5 (Int32.ofNat l) (Int64.ofNat mo) n 0 64 (sF (sF M4 4 0) 7 0) (by omega) (by omega) hc4 rfl (fun t ht => absurd ht (Nat.not_lt_zero t)) (fun j hj => absurd hj (by omega))
  have l4 : M5.2.1 4 = M.2.1 4 := by rw [r3]; exact g.2.1 4 rfl
  have a14 : M5.1 14 = M.1 14 := by rw [r2 14 (by decide) (by decide)]; exact g.1 14 rfl (by decide) (by decide)
  have a16 : M5.1 16 = M.1 16 := by rw [r2 16 (by decide) (by decide)]; exact g.1 16 rfl (by decide) (by decide)
  have rx : RX M5 (cwc v n) n (cwf v n) l mo (knM M n (cwf v n)) (blM M) := by
    refine ⟨hm, hn, hl, hmo, by rw [r4 5 (by decide)]; exact hc4, r5, fun i hi => ⟨r6 i hi, cwf_lt n i hi⟩, fun i hi b hb => ?_, fun b hb => ?_, fun i b => (knM_v M n (cwf v n) i b).1⟩
    · rw [← (knM_v M n (cwf v n) i b).2, ← kinM h.1 h.2.2.2.2.1 (cwf_lt n i hi) hb]
      unfold M_kinOf gL
      rw [l4]
    · unfold M_isBull blM
      rw [gd_in (by omega) (by omega), gd_in (by omega) (by omega), gI_of M5 14 (by omega), gI_of M5 16 (by omega), a14, a16, (h.2.1 b hb).2.2.1]
      rcases h.2.2.2.1.1 b hb with ⟨h7, h16⟩ | ⟨h7, h16⟩
      · rw [h7, h16]
        by_cases q : M.1 5 b = 0
        · simp [q]
        · simp [q]
      · rw [h7, h16]
        by_cases q : M.1 5 b = 0
        · simp [q]
        · simp [q]
  obtain ⟨v2, M6, f1, f2, f3⟩ := find_v rx
  have base1 : ∀ j, j < 24 → M5.1 19 j = -1 := fun j hj => by
    by_cases q : j < n
    · exact r7 j q
    · rw [r8 j (by omega)]
      show M4.1 19 j = -1
      rw [e19, (h.2.2.2.2.2.2.2.1 j hj).1]
      exact (h.2.2.2.2.2.2.2.1 j hj).2.2 (by omega)
  have fz5 : Fz M4 M5 := ⟨fun a x _ x19 => (r2 a x19 (fun q => by rw [q] at x; exact absurd x (by decide))).trans rfl, fun a _ => by rw [r3]; rfl, fun a x _ _ => by
    rw [r4 a (fun q => by rw [q] at x; exact absurd x (by decide))]
    show (if a = 7 then _ else if a = 4 then _ else M4.2.2.1 a) = _
    rw [if_neg (fun q => by rw [q] at x; exact absurd x (by decide)), if_neg (fun q => by rw [q] at x; exact absurd x (by decide))]⟩
  have fz6 : Fz M4 M6 := Fz_tr fz5 (Fz_FrS f2)
  have a8 : M6.1 8 = M4.1 8 := by rw [f2.1 8 (by decide) (by decide) (by decide), r2 8 (by decide) (by decide)]; rfl
  have a19 : M6.1 19 = M5.1 19 := f2.1 19 (by decide) (by decide) (by decide)
  have a20 : M6.1 20 = M5.1 20 := f2.1 20 (by decide) (by decide) (by decide)
  have b1 : M6.2.2.1 1 = M4.2.2.1 1 := by rw [f2.2, r4 1 (by decide)]; rfl
  have b4 : M6.2.2.1 4 = 0 := by rw [f2.2, r4 4 (by decide)]; rfl
  have b7 : M6.2.2.1 7 = Int32.ofNat (cwc v n) := by rw [f2.2]; exact r5
  have c7 : M6.2.1 7 = M4.2.1 7 := by rw [f2.2, r3]; rfl
  have r1' : M_plan_L143 64 v (Int32.ofNat l) (Int64.ofNat mo) 0 (sF (sF M4 4 0) 7 0) = Option.bind (M_findBest M5 (Int32.ofNat l) (Int64.ofNat mo)) (fun r3 => if r3.1 < (0 : Int64) then (M_plan_L224 64 r3.1 (0 : Int32) (sF r3.2 6 (0 : Int32))) else (M_plan_L224 64 r3.1 (0 : Int32) (sF r3.2 6 (1 : Int32)))) := r1
  rw [r1', f1, Option.bind_some]
  rcases f3 with ⟨s1, s2⟩ | ⟨f, s1, s2, s3, s4, s5'⟩
  · refine ⟨v2, sF M6 6 0, M5.1 19, ?_, Fz_tr fz6 ⟨fun _ _ _ _ => rfl, fun _ _ => rfl, fun a _ _ x6 => if_neg x6⟩, a8, b1, b4, c7, base1, Or.inl ⟨s1, fun f hf => s2 f hf (dl_lt hn hf), rfl, a19⟩⟩
    show (if v2 < 0 then M_plan_L224 64 v2 0 (sF M6 6 0) else _) = _
    rw [if_pos (by rw [s1]; decide)]
    show M_plan_b224 (M_plan_L224 63) v2 0 (sF M6 6 0) = _
    unfold M_plan_b224
    by_cases q : gF (sF M6 6 0) 7 ≤ 0
    · rw [if_pos q]
    · rw [if_neg q]
      exact if_pos rfl
  · have hs := sl_le (m := cwc v n) (f := f) (fun i b => (knM_v M n (cwf v n) i b).1)
    obtain ⟨M7, w1, w2, w3, w4⟩ := listL (n := n) (m := cwc v n) (cw := cwf v n) (w := fun i => Int32.ofNat (f i)) (base := M5.1 19) hm hn v2 (cwc v n) 0 64 (sF M6 6 1) (by omega) (by omega) b7 rfl (fun i hi => ⟨by show M6.1 20 i = _; rw [a20]; exact r6 i hi, cwf_lt n i hi⟩) s4 a19
    refine ⟨v2, M7, M5.1 19, ?_, Fz_tr fz6 ⟨fun a _ _ x19 => w2 a x19, fun a _ => by rw [w3]; rfl, fun a _ _ x6 => by rw [w3]; exact if_neg x6⟩, ?_, by rw [w3]; exact b1, by rw [w3]; exact b4, by rw [w3]; exact c7, base1, Or.inr ⟨f, s1, s3, fun g hg => s5' g hg (dl_lt hn hg), by rw [w3]; rfl, w4⟩⟩
    · show (if v2 < 0 then _ else M_plan_L224 64 v2 0 (sF M6 6 1)) = _
      rw [if_neg (by rw [s3]; exact l_nlt0 (by omega))]
      exact w1
    · rw [w2 8 (by decide)]; exact a8
theorem lim_of {v : Int32} (h1 : ¬ v < 1) (h2 : ¬ 8 < v) : ∃ l, l ≤ 8 ∧ v = Int32.ofNat l := by
  have h3 : (1 : Int32) ≤ v := Int32.not_lt.mp h1
  have h4 : v ≤ 8 := Int32.not_lt.mp h2
  have h0 : (0 : Int32) ≤ v := Int32.le_trans (by decide) h3
  refine ⟨v.toNatClampNeg, ?_, (of_of h0).symm⟩
  have h5 : Int32.ofNat v.toNatClampNeg ≤ Int32.ofNat 8 := by rw [of_of h0]; exact h4
  exact (of_le (Int32.toNatClampNeg_lt v) (by omega)).mp h5
theorem sim_plan : SPL := by
  intro M n h v1 v2 v3
  have hn := h.1.1
  have hcl := cwc_le v1 32
  by_cases hbad : v2 < 1 ∨ 8 < v2 ∨ 5 < cwc v1 32 ∨ ¬ 0 ≤ v3
  · refine simL_er 1 h ?_ ?_ (by decide)
    · have e : H_plan M v1 v2 v3 = some (.error "java/lang/IllegalArgumentException", M) := by
        unfold H_plan
        rw [bitCount_v, Option.bind_some]
        by_cases h1 : v2 < 1
        · rw [if_pos h1]
        · rw [if_neg h1]
          by_cases h2 : 8 < v2
          · rw [if_pos h2]
          · rw [if_neg h2]
            by_cases h3 : 5 < cwc v1 32
            · rw [if_pos (show (5 : Int32) < Int32.ofNat (cwc v1 32) from (of_lt (a := 5) (by omega) (by omega)).mpr h3)]
            · rw [if_neg (show ¬ (5 : Int32) < Int32.ofNat (cwc v1 32) from fun q => h3 ((of_lt (a := 5) (by omega) (by omega)).mp q)), if_neg (fun q => by rcases hbad with w | w | w | w <;> contradiction)]
      unfold L_plan
      rw [e]
      rfl
    · show M_plan M v1 v2 v3 = _
      rcases plan_twin (v1 := v1) (v2 := v2) (v3 := v3) h h.1.c rfl rfl n 0 64 64 (by omega) (by omega) (by omega) with ⟨-, q⟩ | ⟨-, q⟩
      · rw [plan_front hn h.1.c q, planF_bad hbad, planF_bad hbad, ite_self]
      · rw [plan_front hn h.1.c q, planF_bad hbad, planF_bad hbad, ite_self]
  · have h1 : ¬ v2 < 1 := fun q => hbad (Or.inl q)
    have h2 : ¬ 8 < v2 := fun q => hbad (Or.inr (Or.inl q))
    have h3 : ¬ 5 < cwc v1 32 := fun q => hbad (Or.inr (Or.inr (Or.inl q)))
    have h4 : 0 ≤ v3 := Decidable.byContradiction (fun q => hbad (Or.inr (Or.inr (Or.inr q))))
    have eH : H_plan M v1 v2 v3 = if us (Int32.ofNat n) v1 = 0 then (ab_thrP (H_requireLivingFemales M v1) (fun r11 => Option.bind (B_begin M v1 v2 v3) (fun r14 => H_plan_L75 64 (0 : Int32) r14)) (fun E12 => some (.error E12, M))) else (some (.error "java/util/NoSuchElementException", M)) := by
      unfold H_plan
      rw [bitCount_v, Option.bind_some, if_neg h1, if_neg h2, if_neg (show ¬ (5 : Int32) < Int32.ofNat (cwc v1 32) from fun q => h3 ((of_lt (a := 5) (by omega) (by omega)).mp q)), if_pos h4, P_size_v h.1, Option.bind_some]
      rfl
    by_cases hz : ∀ k, n ≤ k → k < 32 → bt v1 k = false
    · rw [if_pos ((u_of hn).mpr hz)] at eH
      rcases plan_twin (v1 := v1) (v2 := v2) (v3 := v3) h h.1.c rfl rfl n 0 64 64 (by omega) (by omega) (by omega) with ⟨q1, q⟩ | ⟨q1, q⟩
      · obtain ⟨l, l1, l2⟩ := lim_of h1 h2
        have m1 := Int64.toNatClampNeg_lt v3
        have m2 : Int64.ofNat v3.toNatClampNeg = v3 := Int64.ofNat_toNatClampNeg v3 h4
        obtain ⟨val, M3, a1, a2, a3, a4, a5⟩ := plan_class h (v := v1) l1 m1 hz (by omega)
        rw [m2, ← l2] at a1
        have q1' : H_requireLivingFemales M v1 = some (.ok ()) := q1
        rw [q1', thrP_ok, a1] at eH
        have fz4 : Fz M (sL M3 7 0 val) := Fz_tr a2 (Fz_Ag (Ag_7 M3 val))
        obtain ⟨w, M7, base, c1, c2, c3, c4, c5', c6, c7, c8⟩ := plan_ref h fz4 a3 (v := v1) l1 m1 hz (by omega)
        rw [m2, ← l2] at c1
        have hc4 : gF (sL M3 7 0 val) 5 = Int32.ofNat n := by
          show M3.2.2.1 5 = _
          rw [a2.2.2 5 rfl (by decide) (by decide)]
          exact h.1.2.2
        have e14 : (sL M3 7 0 val).1 14 = M.1 14 := a2.1 14 rfl (by decide) (by decide)
        have e16 : (sL M3 7 0 val).1 16 = M.1 16 := a2.1 16 rfl (by decide) (by decide)
        have hm : cwc v1 n ≤ 5 := by
          have := cwc_mono v1 (i := n) (32 - n)
          rw [show n + (32 - n) = 32 by omega] at this
          omega
        have kb := fun i b => (knM_v M n (cwf v1 n) i b).1
        -- both roads end alike
        have both : w = val ∧ IJ M7 n := by
          rcases a5 with ⟨x1, x2, x3, x4⟩ | ⟨f, x1, x2, x3, x4, x5⟩
          · rcases c8 with ⟨y1, y2, y3, y4⟩ | ⟨f', y1, y2, y3, y4, y5⟩
            · refine ⟨y1.trans x1.symm, fun j hj => ?_, Or.inl ⟨by rw [c4]; exact x3, y3⟩⟩
              have e8 : M7.1 8 j = -1 := by
                rw [c3]
                show M3.1 8 j = _
                rw [x4]
                exact if_pos hj
              rw [y4, c7 j hj, e8]
              exact ⟨rfl, Or.inl rfl, fun _ => rfl⟩
            · exact absurd ((FL_FE hm f').mpr y1) (x2 f')
          · rcases c8 with ⟨y1, y2, y3, y4⟩ | ⟨f', y1, y2, y3, y4, y5⟩
            · exact absurd ((FL_FE hm f).mp x1) (y2 f)
            · have k1 := x3 f' ((FL_FE hm f').mpr y1)
              have k2 := y3 f ((FL_FE hm f).mp x1)
              unfold key at k1
              rw [sk_sl hm, sk_sl hm, cd_dl hm, cd_dl hm] at k1
              have d1 := dl_lt hn y1
              have d2 := dl_lt hn ((FL_FE hm f).mp x1)
              have es : sl5 (knM M n (cwf v1 n)) (cwc v1 n) f = sl5 (knM M n (cwf v1 n)) (cwc v1 n) f' := by omega
              have ed : dl5 (cwc v1 n) f = dl5 (cwc v1 n) f' := by omega
              have ef : ∀ i, i < cwc v1 n → f i = f' i := fun i hi => by
                have := c5_inj (dg_lt hn ((FL_FE hm f).mp x1)) (dg_lt hn y1) ed i (by omega)
                rw [if_pos hi, if_pos hi] at this
                exact this
              refine ⟨?_, fun j hj => ?_, Or.inr ⟨by rw [c4]; exact x4, y4⟩⟩
              · rw [y2, x2, sk_sl hm, es]
              · have e8 : M7.1 8 = M3.1 8 := c3
                have eb : wb (cwf v1 n) (fun i => Int32.ofNat (f' i)) base (cwc v1 n) j = wb (cwf v1 n) (fun i => Int32.ofNat (f i)) (fun j => if j < 24 then -1 else M.1 8 j) (cwc v1 n) j := wb_eq (fun i hi => by rw [ef i hi]) (fun j hj => by rw [c7 j hj, if_pos hj]) (cwc v1 n) (Nat.le_refl _) j hj
                have pb := wb_par (n := n) (cw := cwf v1 n) (w := fun i => Int32.ofNat (f i)) (base := fun j => if j < 24 then -1 else M.1 8 j) (m := cwc v1 n) (fun i hi => Or.inr ⟨f i, (((FL_FE hm f).mp x1).1 i hi).1, rfl⟩) (fun i hi => cwf_lt n i hi) (fun j hj => if_pos hj) (cwc v1 n) (Nat.le_refl _) j hj
                rw [y5, e8, x5, eb]
                exact ⟨rfl, pb⟩
        refine simL_ok (Mx := M3) (r := val) (M2 := M7) ?_ ?_ c5' c6 (Inv_Fz h (Fz_tr fz4 c2) both.2)
        · unfold L_plan
          rw [eH]
          rfl
        · show M_plan (sL M3 7 0 val) v1 v2 v3 = _
          have q' : ∀ v5, M_plan_L26 64 v1 v2 v3 v5 1 0 (sL M3 7 0 val) = planF v1 v2 v3 v5 1 (sL M3 7 0 val) := by
            rcases plan_twin (v1 := v1) (v2 := v2) (v3 := v3) h hc4 e14 e16 n 0 64 64 (by omega) (by omega) (by omega) with ⟨-, z⟩ | ⟨z, -⟩
            · exact z
            · rw [q1] at z; cases z
          rw [plan_front hn hc4 q', if_pos ((z_of hn).mpr hz), planF_ok h1 h2 h3 h4, if_neg (by decide), pc126_0, c1, both.1]
      · refine simL_er 3 h ?_ ?_ (by decide)
        · have q1' : H_requireLivingFemales M v1 = some (.error "java/lang/UnsupportedOperationException") := q1
          rw [q1', thrP_er] at eH
          unfold L_plan
          rw [eH]
          rfl
        · show M_plan M v1 v2 v3 = _
          rw [plan_front hn h.1.c q, if_pos ((z_of hn).mpr hz), planF_ok h1 h2 h3 h4, if_pos rfl, pc126_3]
    · refine simL_er 2 h ?_ ?_ (by decide)
      · rw [if_neg (fun q => hz ((u_of hn).mp q))] at eH
        unfold L_plan
        rw [eH]
        rfl
      · show M_plan M v1 v2 v3 = _
        rcases plan_twin (v1 := v1) (v2 := v2) (v3 := v3) h h.1.c rfl rfl n 0 64 64 (by omega) (by omega) (by omega) with ⟨-, q⟩ | ⟨-, q⟩
        · rw [plan_front hn h.1.c q, if_neg (fun q => hz ((z_of hn).mp q)), planF_ok h1 h2 h3 h4, if_neg (by decide), pc126_2]
        · rw [plan_front hn h.1.c q, if_neg (fun q => hz ((z_of hn).mp q)), planF_ok h1 h2 h3 h4, if_pos rfl, pc126_2]
end PLAN3
