/-! the class's table of best lists -/
section BEST
def FrB (M M' : Me) : Prop := (∀ x, ¬ x = 10 → ¬ x = 11 → M'.1 x = M.1 x) ∧ (∀ x, ¬ x = 2 → ¬ x = 3 → M'.2.1 x = M.2.1 x) ∧ M'.2.2 = M.2.2
theorem FrB_rf (M : Me) : FrB M M := ⟨fun _ _ _ => rfl, fun _ _ _ => rfl, rfl⟩
theorem FrB_tr {M M' M'' : Me} (h : FrB M M') (h' : FrB M' M'') : FrB M M'' := ⟨fun x a b => (h'.1 x a b).trans (h.1 x a b), fun x a b => (h'.2.1 x a b).trans (h.2.1 x a b), h'.2.2.trans h.2.2⟩
def CX (M : Me) (m n : Nat) (cw : Nat → Nat) (l mo : Nat) (kn : Nat → Nat → Nat) : Prop := m ≤ 5 ∧ n ≤ 24 ∧ M.2.2.1 2 = Int32.ofNat m ∧ M.2.2.1 3 = Int32.ofNat l ∧ l ≤ 8 ∧ M.2.2.2 0 = Int64.ofNat mo ∧ mo < 9223372036854775808 ∧ (∀ i, i < m → M.1 9 i = Int32.ofNat (cw i) ∧ cw i < n) ∧ (∀ i, i < m → ∀ b, b < n → P_kinOf M (Int32.ofNat (cw i)) (Int32.ofNat b) = some (Int64.ofNat (kn i b))) ∧ ∀ i b, kn i b ≤ 1125899906842624
theorem CX.hm {M : Me} {m n : Nat} {cw : Nat → Nat} {l mo : Nat} {kn : Nat → Nat → Nat} (h : CX M m n cw l mo kn) : m ≤ 5 := h.1
theorem CX.hn {M : Me} {m n : Nat} {cw : Nat → Nat} {l mo : Nat} {kn : Nat → Nat → Nat} (h : CX M m n cw l mo kn) : n ≤ 24 := h.2.1
theorem CX.f2 {M : Me} {m n : Nat} {cw : Nat → Nat} {l mo : Nat} {kn : Nat → Nat → Nat} (h : CX M m n cw l mo kn) : M.2.2.1 2 = Int32.ofNat m := h.2.2.1
theorem CX.f3 {M : Me} {m n : Nat} {cw : Nat → Nat} {l mo : Nat} {kn : Nat → Nat → Nat} (h : CX M m n cw l mo kn) : M.2.2.1 3 = Int32.ofNat l := h.2.2.2.1
theorem CX.hl {M : Me} {m n : Nat} {cw : Nat → Nat} {l mo : Nat} {kn : Nat → Nat → Nat} (h : CX M m n cw l mo kn) : l ≤ 8 := h.2.2.2.2.1
theorem CX.g0 {M : Me} {m n : Nat} {cw : Nat → Nat} {l mo : Nat} {kn : Nat → Nat → Nat} (h : CX M m n cw l mo kn) : M.2.2.2 0 = Int64.ofNat mo := h.2.2.2.2.2.1
theorem CX.hmo {M : Me} {m n : Nat} {cw : Nat → Nat} {l mo : Nat} {kn : Nat → Nat → Nat} (h : CX M m n cw l mo kn) : mo < 9223372036854775808 := h.2.2.2.2.2.2.1
theorem CX.hc {M : Me} {m n : Nat} {cw : Nat → Nat} {l mo : Nat} {kn : Nat → Nat → Nat} (h : CX M m n cw l mo kn) : (∀ i, i < m → M.1 9 i = Int32.ofNat (cw i) ∧ cw i < n) := h.2.2.2.2.2.2.2.1
theorem CX.hk {M : Me} {m n : Nat} {cw : Nat → Nat} {l mo : Nat} {kn : Nat → Nat → Nat} (h : CX M m n cw l mo kn) : (∀ i, i < m → ∀ b, b < n → P_kinOf M (Int32.ofNat (cw i)) (Int32.ofNat b) = some (Int64.ofNat (kn i b))) := h.2.2.2.2.2.2.2.2.1
theorem CX.hb {M : Me} {m n : Nat} {cw : Nat → Nat} {l mo : Nat} {kn : Nat → Nat → Nat} (h : CX M m n cw l mo kn) : ∀ i b, kn i b ≤ 1125899906842624 := h.2.2.2.2.2.2.2.2.2
variable {m n : Nat} {cw : Nat → Nat} {l mo : Nat} {kn : Nat → Nat → Nat} {bl : Nat → Bool} {b : Nat}
theorem kin_row {M M' : Me} (h : ∀ x, ¬ x = 2 → ¬ x = 3 → M'.2.1 x = M.2.1 x) (p q : Int32) : P_kinOf M' p q = P_kinOf M p q := by
  unfold P_kinOf gR
  rw [h _ (by omega) (by omega)]
theorem CX_Fr {M M' : Me} (h : CX M m n cw l mo kn) (g : FrB M M') : CX M' m n cw l mo kn :=
  ⟨h.hm, h.hn, by rw [g.2.2]; exact h.f2, by rw [g.2.2]; exact h.f3, h.hl, by rw [g.2.2]; exact h.g0, h.hmo, fun i hi => by rw [g.1 9 (by decide) (by decide)]; exact h.hc i hi, fun i hi b hb => by rw [kin_row g.2.1]; exact h.hk i hi b hb, h.hb⟩
def pf (g : Nat → Nat) (j : Nat) : Nat → Nat := fun i => if i < j then g i else 0
def one (j x : Nat) : Nat → Nat := fun i => if i = j then x else 0
theorem pf_s (g : Nat → Nat) (j i : Nat) : pf g (j + 1) i = pf g j i + one j (g j) i := by
  unfold pf one
  by_cases h : i = j
  · subst h
    rw [if_pos (by omega), if_neg (by omega), if_pos rfl, Nat.zero_add]
  · rw [if_neg h]
    by_cases h2 : i < j
    · rw [if_pos (by omega), if_pos h2]
      rfl
    · rw [if_neg (by omega), if_neg h2]
theorem s5_one : ∀ j, j < 5 → ∀ x, s5 (one j x) = x := lt5 (fun x => by simp [s5, one]) (fun x => by simp [s5, one]) (fun x => by simp [s5, one]) (fun x => by simp [s5, one]) (fun x => by simp [s5, one])
theorem c5_one : ∀ j, j < 5 → ∀ x, c5 (one j x) = x * 32 ^ (4 - j) := lt5 (fun x => by simp [c5, one]; omega) (fun x => by simp [c5, one]; omega) (fun x => by simp [c5, one]; omega) (fun x => by simp [c5, one]) (fun x => by simp [c5, one])
theorem pf_all {g : Nat → Nat} (h : ∀ i, i < 5 → m ≤ i → g i = 0) : ∀ i, i < 5 → pf g m i = g i := fun i hi => by
  unfold pf
  by_cases h2 : i < m
  · rw [if_pos h2]
  · rw [if_neg h2, h i hi (by omega)]
theorem hi_0 (hm : m ≤ 5) {p : Nat} (hp : p < 2 ^ m) {i : Nat} (hi : i < 5) (h : m ≤ i) : p.testBit i = false := by
  cases hq : p.testBit i
  · rfl
  · have := tb_hi m (by omega) p hp i hi hq
    omega
theorem two_le (hm : m ≤ 5) : 2 ^ m ≤ 32 := by
  have : ∀ m, m < 6 → 2 ^ m ≤ 32 := by decide +kernel
  exact this m (by omega)
theorem sumL {M : Me} (c : CX M m n cw l mo kn) {p : Nat} (hp : p < 2 ^ m) (hb : b < n) : ∀ (e j F : Nat), j + e = m → e < F → (∀ i, i < j → p.testBit i = true → kn i b ≤ mo) → ∃ v, B_sumOfKin_L6 M F (Int32.ofNat p) (Int32.ofNat b) (Int64.ofNat (s5 (pf (fun i => if p.testBit i = true then kn i b else 0) j))) (Int32.ofNat j) = some v ∧ (((∀ i, i < 5 → p.testBit i = true → kn i b ≤ mo) ∧ v = Int64.ofNat (sk kn p (fun _ => b))) ∨ (¬ (∀ i, i < 5 → p.testBit i = true → kn i b ≤ mo) ∧ v = -1)) := by
  have hm := c.hm
  have f2 : gF M 2 = Int32.ofNat m := c.f2
  have g0 : gG M 0 = Int64.ofNat mo := c.g0
  intro e
  induction e with
  | zero =>
    intro j F hj hF hk
    obtain ⟨F, rfl⟩ := succ_of hF
    have hj2 : j = m := by omega
    subst hj2
    refine ⟨_, ?_, Or.inl ⟨fun i hi q => hk i (tb_hi j (by omega) p hp i hi q) q, rfl⟩⟩
    show B_sumOfKin_b6 _ _ _ _ _ _ = _
    unfold B_sumOfKin_b6
    rw [f2, if_pos (Int32.le_refl _)]
    have e := s5_congr (pf_all (m := j) (g := fun i => if p.testBit i = true then kn i b else 0) (fun i hi h => by simp [hi_0 c.hm hp hi h]))
    rw [e]
    rfl
  | succ e ih =>
    intro j F hj hF hk
    obtain ⟨F, rfl⟩ := succ_of hF
    have es : s5 (pf (fun i => if p.testBit i = true then kn i b else 0) (j + 1)) = s5 (pf (fun i => if p.testBit i = true then kn i b else 0) j) + (if p.testBit j = true then kn j b else 0) := by
      rw [s5_add (fun i _ => pf_s _ j i), s5_one j (by omega)]
    show ∃ v, B_sumOfKin_b6 _ _ _ _ _ _ = _ ∧ _
    unfold B_sumOfKin_b6
    rw [f2, if_neg (by rw [of_le (by omega) (by omega)]; omega), of_s]
    cases hq : p.testBit j
    · rw [if_pos ((tb_of p (by omega)).mpr hq)]
      have k := ih (j + 1) F (by omega) (by omega) (fun i hi q => by
        by_cases hij : i = j
        · rw [hij, hq] at q; exact absurd q (by decide)
        · exact hk i (by omega) q)
      rw [es, hq] at k
      exact k
    · rw [if_neg (fun q => by rw [(tb_of p (by omega)).mp q] at hq; exact absurd hq (by decide)), gd_in (by omega) (by omega), gI_of M 9 (by omega), (c.hc j (by omega)).1, c.hk j (by omega) b hb, Option.bind_some, g0]
      by_cases hw : kn j b ≤ mo
      · have hkb := c.hb j b
        rw [if_pos ((l_le (by omega) c.hmo).mpr hw), l_add]
        have k := ih (j + 1) F (by omega) (by omega) (fun i hi q => by
          by_cases hij : i = j
          · rw [hij]; exact hw
          · exact hk i (by omega) q)
        rw [es, hq] at k
        exact k
      · have hkb := c.hb j b
        rw [if_neg (fun q => hw ((l_le (by omega) c.hmo).mp q))]
        exact ⟨-1, rfl, Or.inr ⟨fun q => hw (q j (by omega) hq), rfl⟩⟩
theorem codeL {M : Me} (c : CX M m n cw l mo kn) {p : Nat} (hp : p < 2 ^ m) (hb : b < n) : ∀ (e j F : Nat), j + e = m → e < F → B_codeOf_L5 M F (Int32.ofNat p) (Int32.ofNat b) (Int32.ofNat (c5 (pf (fun i => if p.testBit i = true then b else 0) j))) (Int32.ofNat j) = some (Int32.ofNat (cd p (fun _ => b))) := by
  have hm := c.hm
  have hn := c.hn
  have f2 : gF M 2 = Int32.ofNat m := c.f2
  intro e
  induction e with
  | zero =>
    intro j F hj hF
    obtain ⟨F, rfl⟩ := succ_of hF
    have hj2 : j = m := by omega
    subst hj2
    show B_codeOf_b5 _ _ _ _ _ _ = _
    unfold B_codeOf_b5
    rw [f2, if_pos (Int32.le_refl _)]
    have e := c5_congr (pf_all (m := j) (g := fun i => if p.testBit i = true then b else 0) (fun i hi h => by simp [hi_0 c.hm hp hi h]))
    rw [e]
    rfl
  | succ e ih =>
    intro j F hj hF
    obtain ⟨F, rfl⟩ := succ_of hF
    have es : c5 (pf (fun i => if p.testBit i = true then b else 0) (j + 1)) = c5 (pf (fun i => if p.testBit i = true then b else 0) j) + c5 (one j (if p.testBit j = true then b else 0)) := c5_add (fun i _ => pf_s _ j i)
    rw [← ih (j + 1) F (by omega) (by omega), es]
    show B_codeOf_b5 _ _ _ _ _ _ = _
    unfold B_codeOf_b5
    rw [f2, if_neg (by rw [of_le (by omega) (by omega)]; omega), of_s]
    cases hq : p.testBit j
    · rw [if_pos ((tb_of p (by omega)).mpr hq), c5_one j (by omega)]
      simp
    · rw [if_neg (fun q => by rw [(tb_of p (by omega)).mp q] at hq; exact absurd hq (by decide))]
      unfold B_shiftOf
      rw [Option.bind_some, sh_code b (by omega) j (by omega), ← c5_one j (by omega), of_or, c5_or]
      · simp
      · intro i hi
        unfold pf
        split
        · show (if p.testBit i = true then b else 0) < 32
          split <;> omega
        · omega
      · intro i hi
        unfold one
        split <;> omega
      · intro i hi
        unfold pf one
        by_cases hij : i = j
        · exact Or.inl (if_neg (by omega))
        · exact Or.inr (if_neg hij)
/-- what one bull serves -/
def SC (kn : Nat → Nat → Nat) (mo l b p : Nat) (v : Int64) (c : Int32) : Prop := ((SV kn mo l b p ∧ v = Int64.ofNat (sk kn p (fun _ => b))) ∨ (¬ SV kn mo l b p ∧ v = -1)) ∧ c = Int32.ofNat (cd p (fun _ => b))
theorem weighL (hb : b < n) : ∀ (e p F : Nat) (M : Me), CX M m n cw l mo kn → p + e = 2 ^ m → e < F → (∀ q, q < p → SC kn mo l b q (M.2.1 3 q) (M.1 11 q)) → ∃ M' : Me, B_weighServices_L2 F (Int32.ofNat b) (Int32.ofNat p) M = some M' ∧ FrB M M' ∧ M'.2.1 2 = M.2.1 2 ∧ M'.1 10 = M.1 10 ∧ ∀ q, q < 2 ^ m → SC kn mo l b q (M'.2.1 3 q) (M'.1 11 q) := by
  intro e
  induction e with
  | zero =>
    intro p F M c hp hF hq
    have hm := c.hm
    have h32 := two_le hm
    have f2 : gF M 2 = Int32.ofNat m := c.f2
    obtain ⟨F, rfl⟩ := succ_of hF
    refine ⟨M, ?_, FrB_rf M, rfl, rfl, fun q h => hq q (by omega)⟩
    show B_weighServices_b2 _ _ _ _ = _
    unfold B_weighServices_b2 B_allCows
    have hpos : 0 < 2 ^ m := Nat.two_pow_pos m
    rw [Option.bind_some, f2, all_of m (by omega), if_pos (by rw [of_lt (by omega) (by omega)]; omega)]
  | succ e ih =>
    intro p F M c hp hF hq
    have hm := c.hm
    have h32 := two_le hm
    have f2 : gF M 2 = Int32.ofNat m := c.f2
    have f3 : gF M 3 = Int32.ofNat l := c.f3
    have hl := c.hl
    obtain ⟨F, rfl⟩ := succ_of hF
    have hpos : 0 < 2 ^ m := Nat.two_pow_pos m
    have hpc : pc p ≤ 5 := by
      refine Nat.le_trans (s5_le (h := fun _ => 1) (fun i hi => ?_)) (Nat.le_refl _)
      split <;> omega
    -- the cell's value
    have key : ∃ v, (if Int32.ofNat (pc p) ≤ Int32.ofNat l then (Option.bind (B_sumOfKin M (Int32.ofNat p) (Int32.ofNat b)) (fun r8 => B_weighServices_c39 (B_weighServices_L2 F) (Int32.ofNat b) (Int32.ofNat p) r8 (Int32.ofNat p) M)) else (B_weighServices_c39 (B_weighServices_L2 F) (Int32.ofNat b) (Int32.ofNat p) (-1 : Int64) (Int32.ofNat p) M)) = B_weighServices_c39 (B_weighServices_L2 F) (Int32.ofNat b) (Int32.ofNat p) v (Int32.ofNat p) M ∧ ((SV kn mo l b p ∧ v = Int64.ofNat (sk kn p (fun _ => b))) ∨ (¬ SV kn mo l b p ∧ v = -1)) := by
      by_cases hw : pc p ≤ l
      · obtain ⟨v, v1, v2⟩ := sumL c (p := p) (by omega) hb m 0 64 (by omega) (by omega) (fun i hi => absurd hi (by omega))
        refine ⟨v, ?_, ?_⟩
        · rw [if_pos ((of_le (by omega) (by omega)).mpr hw)]
          unfold B_sumOfKin
          have z : s5 (pf (fun i => if p.testBit i = true then kn i b else 0) 0) = 0 := rfl
          rw [z] at v1
          have v1' : B_sumOfKin_L6 M 64 (Int32.ofNat p) (Int32.ofNat b) 0 0 = some v := v1
          rw [v1', Option.bind_some]
        · rcases v2 with ⟨w1, w2⟩ | ⟨w1, w2⟩
          · exact Or.inl ⟨⟨hw, w1⟩, w2⟩
          · exact Or.inr ⟨fun q => w1 q.2, w2⟩
      · refine ⟨-1, ?_, Or.inr ⟨fun q => hw q.1, rfl⟩⟩
        rw [if_neg (fun q => hw ((of_le (by omega) (by omega)).mp q))]
    obtain ⟨v, v1, v2⟩ := key
    have c1 : CX (sL M 3 (Int32.ofNat p) v) m n cw l mo kn := CX_Fr c ⟨fun _ _ _ => rfl, fun x _ h3 => if_neg h3, rfl⟩
    have hcode : B_codeOf (sL M 3 (Int32.ofNat p) v) (Int32.ofNat p) (Int32.ofNat b) = some (Int32.ofNat (cd p (fun _ => b))) := by
      have q := codeL c1 (p := p) (by omega) hb m 0 64 (by omega) (by omega)
      have z : c5 (pf (fun i => if p.testBit i = true then b else 0) 0) = 0 := by simp [c5, pf]
      rw [z] at q
      exact q
    have fr : FrB M (sI (sL M 3 (Int32.ofNat p) v) 11 (Int32.ofNat p) (Int32.ofNat (cd p (fun _ => b)))) := ⟨fun x _ h => if_neg h, fun x _ h => if_neg h, rfl⟩
    obtain ⟨M', q1, q2, q3, q4, q5⟩ := ih (p + 1) F (sI (sL M 3 (Int32.ofNat p) v) 11 (Int32.ofNat p) (Int32.ofNat (cd p (fun _ => b)))) (CX_Fr c fr) (by omega) (by omega) (fun q hqp => by
      have e3 : (sI (sL M 3 (Int32.ofNat p) v) 11 (Int32.ofNat p) (Int32.ofNat (cd p (fun _ => b)))).2.1 3 q = if q = p then v else M.2.1 3 q := by
        show vp_updL (M.2.1 3) (Int32.ofNat p).toNatClampNeg v q = _
        rw [of_cl (by omega)]
        rfl
      have e11 : (sI (sL M 3 (Int32.ofNat p) v) 11 (Int32.ofNat p) (Int32.ofNat (cd p (fun _ => b)))).1 11 q = if q = p then Int32.ofNat (cd p (fun _ => b)) else M.1 11 q := by
        show upd (M.1 11) (Int32.ofNat p).toNatClampNeg _ q = _
        rw [of_cl (by omega)]
        rfl
      rw [e3, e11]
      by_cases hqq : q = p
      · subst hqq
        rw [if_pos rfl, if_pos rfl]
        exact ⟨v2, rfl⟩
      · rw [if_neg hqq, if_neg hqq]
        exact hq q (by omega))
    refine ⟨M', ?_, FrB_tr fr q2, q3, q4, q5⟩
    rw [← q1]
    show B_weighServices_b2 _ _ _ _ = _
    unfold B_weighServices_b2 B_allCows
    rw [Option.bind_some, f2, all_of m (by omega), if_neg (by rw [of_lt (by omega) (by omega)]; omega), bitCount5 M p (by omega), Option.bind_some, f3, v1]
    unfold B_weighServices_c39
    rw [gd_in (by omega) (by omega), hcode, Option.bind_some, gd_in (by omega) (by omega), of_s]
/-- a cell of the table -/
def CE (v : Int64) (c : Int32) : Option (Nat × Nat) → Prop
  | none => v = -1
  | some o => v = Int64.ofNat o.1 ∧ c = Int32.ofNat o.2
/-- the cell of s holds the best list for A -/
def CL (kn : Nat → Nat → Nat) (M : Me) (A : (Nat → Nat) → Prop) (s : Nat) : Prop := ∃ o, CE (M.2.1 2 s) (M.1 10 s) o ∧ OP kn A s o
theorem CL_congr {M : Me} {A B : (Nat → Nat) → Prop} {s : Nat} (h : ∀ f, A f ↔ B f) (q : CL kn M A s) : CL kn M B s := by
  obtain ⟨o, q1, q2⟩ := q
  exact ⟨o, q1, OP_congr h q2⟩
theorem CL_eq {M M' : Me} {A : (Nat → Nat) → Prop} {s : Nat} (h1 : M'.2.1 2 s = M.2.1 2 s) (h2 : M'.1 10 s = M.1 10 s) (q : CL kn M A s) : CL kn M' A s := by
  unfold CL
  rw [h1, h2]
  exact q
theorem keepB {M : Me} {s x c : Nat} (hs : s < 32) (hx : x < 9223372036854775808) (hc : c < 2147483648) {o : Option (Nat × Nat)} (h : CE (M.2.1 2 s) (M.1 10 s) o) (ho : ∀ q, o = some q → q.1 < 9223372036854775808 ∧ q.2 < 2147483648) : ∃ M' : Me, B_keepBetter M (Int32.ofNat s) (Int64.ofNat x) (Int32.ofNat c) = some M' ∧ FrB M M' ∧ M'.2.1 3 = M.2.1 3 ∧ M'.1 11 = M.1 11 ∧ (∀ t, ¬ t = s → M'.2.1 2 t = M.2.1 2 t ∧ M'.1 10 t = M.1 10 t) ∧ CE (M'.2.1 2 s) (M'.1 10 s) (better o x c) := by
  have set1 : ∃ M' : Me, B_keepBetter_c51 (Int32.ofNat s) (Int64.ofNat x) (Int32.ofNat c) 1 M = some M' ∧ FrB M M' ∧ M'.2.1 3 = M.2.1 3 ∧ M'.1 11 = M.1 11 ∧ (∀ t, ¬ t = s → M'.2.1 2 t = M.2.1 2 t ∧ M'.1 10 t = M.1 10 t) ∧ CE (M'.2.1 2 s) (M'.1 10 s) (some (x, c)) := by
    have e2 : ∀ t, (sI (sL M 2 (Int32.ofNat s) (Int64.ofNat x)) 10 (Int32.ofNat s) (Int32.ofNat c)).2.1 2 t = if t = s then Int64.ofNat x else M.2.1 2 t := fun t => by
      show vp_updL (M.2.1 2) (Int32.ofNat s).toNatClampNeg _ t = _
      rw [of_cl (by omega)]
      rfl
    have e10 : ∀ t, (sI (sL M 2 (Int32.ofNat s) (Int64.ofNat x)) 10 (Int32.ofNat s) (Int32.ofNat c)).1 10 t = if t = s then Int32.ofNat c else M.1 10 t := fun t => by
      show upd (M.1 10) (Int32.ofNat s).toNatClampNeg _ t = _
      rw [of_cl (by omega)]
      rfl
    refine ⟨sI (sL M 2 (Int32.ofNat s) (Int64.ofNat x)) 10 (Int32.ofNat s) (Int32.ofNat c), ?_, ⟨fun y h10 _ => if_neg h10, fun y h2 _ => if_neg h2, rfl⟩, rfl, rfl, fun t ht => ?_, ?_, ?_⟩
    · unfold B_keepBetter_c51
      rw [if_neg (by decide), gd_in (by omega) (by omega), gd_in (by omega) (by omega)]
    · rw [e2, e10, if_neg ht, if_neg ht]
      exact ⟨rfl, rfl⟩
    · rw [e2, if_pos rfl]
    · rw [e10, if_pos rfl]
  have set0 : B_keepBetter_c51 (Int32.ofNat s) (Int64.ofNat x) (Int32.ofNat c) 0 M = some M := by
    unfold B_keepBetter_c51
    rw [if_pos rfl]
  unfold B_keepBetter
  rw [gd_in (by omega) (by omega), gd_in (by omega) (by omega), gd_in (by omega) (by omega), gd_in (by omega) (by omega), gL_of M 2 (by omega), gI_of M 10 (by omega)]
  cases o with
  | none =>
    have h' : M.2.1 2 s = -1 := h
    rw [if_pos h']
    exact set1
  | some o =>
    obtain ⟨y, d⟩ := o
    obtain ⟨h1, h2⟩ := h
    have hy := ho _ rfl
    simp only at h1 h2 hy
    rw [h1, h2, if_neg (l_nm1 hy.1)]
    show ∃ M' : Me, _ ∧ FrB M M' ∧ M'.2.1 3 = M.2.1 3 ∧ M'.1 11 = M.1 11 ∧ (∀ t, ¬ t = s → M'.2.1 2 t = M.2.1 2 t ∧ M'.1 10 t = M.1 10 t) ∧ CE (M'.2.1 2 s) (M'.1 10 s) (if x < y ∨ (x = y ∧ c < d) then some (x, c) else some (y, d))
    by_cases k1 : x < y
    · rw [if_pos ((l_lt hx hy.1).mpr k1), if_pos (Or.inl k1)]
      exact set1
    · rw [if_neg (fun q => k1 ((l_lt hx hy.1).mp q))]
      by_cases k2 : x = y
      · rw [if_pos (by rw [k2])]
        by_cases k3 : d ≤ c
        · rw [if_pos ((of_le hy.2 hc).mpr k3), if_neg (by omega), set0]
          exact ⟨M, rfl, FrB_rf M, rfl, rfl, fun _ _ => ⟨rfl, rfl⟩, h1, h2⟩
        · rw [if_neg (fun q => k3 ((of_le hy.2 hc).mp q)), if_pos (by omega)]
          exact set1
      · rw [if_neg (fun q => k2 ((l_eq hx hy.1).mp q)), if_neg (by omega), set0]
        exact ⟨M, rfl, FrB_rf M, rfl, rfl, fun _ _ => ⟨rfl, rfl⟩, h1, h2⟩
end BEST
