/-! the reference's search -/
section FIND
def FrS (M M' : Me) : Prop := (∀ x, ¬ x = 21 → ¬ x = 22 → ¬ x = 23 → M'.1 x = M.1 x) ∧ M'.2 = M.2
theorem FrS_rf (M : Me) : FrS M M := ⟨fun _ _ _ _ => rfl, rfl⟩
theorem FrS_tr {M M' M'' : Me} (h : FrS M M') (h' : FrS M' M'') : FrS M M'' := ⟨fun x a b c => (h'.1 x a b c).trans (h.1 x a b c), h'.2.trans h.2⟩
theorem FrS_sI (M : Me) {a : Nat} (i v : Int32) (ha : a = 21 ∨ a = 22 ∨ a = 23) : FrS M (sI M a i v) := ⟨fun x h1 h2 h3 => if_neg (by omega), rfl⟩
def RX (M : Me) (m n : Nat) (cw : Nat → Nat) (l mo : Nat) (kn : Nat → Nat → Nat) (bl : Nat → Bool) : Prop := m ≤ 5 ∧ n ≤ 24 ∧ l ≤ 8 ∧ mo < 9223372036854775808 ∧ M.2.2.1 5 = Int32.ofNat n ∧ M.2.2.1 7 = Int32.ofNat m ∧ (∀ i, i < m → M.1 20 i = Int32.ofNat (cw i) ∧ cw i < n) ∧ (∀ i, i < m → ∀ b, b < n → M_kinOf M (Int32.ofNat (cw i)) (Int32.ofNat b) = some (Int64.ofNat (kn i b))) ∧ (∀ b, b < n → M_isBull M (Int32.ofNat b) = some (if bl b = true then 1 else 0)) ∧ ∀ i b, kn i b ≤ 1125899906842624
variable {m n : Nat} {cw : Nat → Nat} {l mo : Nat} {kn : Nat → Nat → Nat} {bl : Nat → Bool}
theorem RX.hm {M : Me} (h : RX M m n cw l mo kn bl) : m ≤ 5 := h.1
theorem RX.hn {M : Me} (h : RX M m n cw l mo kn bl) : n ≤ 24 := h.2.1
theorem RX.hl {M : Me} (h : RX M m n cw l mo kn bl) : l ≤ 8 := h.2.2.1
theorem RX.hmo {M : Me} (h : RX M m n cw l mo kn bl) : mo < 9223372036854775808 := h.2.2.2.1
theorem RX.f5 {M : Me} (h : RX M m n cw l mo kn bl) : gF M 5 = Int32.ofNat n := h.2.2.2.2.1
theorem RX.f7 {M : Me} (h : RX M m n cw l mo kn bl) : gF M 7 = Int32.ofNat m := h.2.2.2.2.2.1
theorem RX.hc {M : Me} (h : RX M m n cw l mo kn bl) {i : Nat} (hi : i < m) : gI M 20 (Int32.ofNat i) = Int32.ofNat (cw i) := by
  have := h.1
  rw [gI_of M 20 (by omega)]
  exact (h.2.2.2.2.2.2.1 i hi).1
theorem RX.hk {M : Me} (h : RX M m n cw l mo kn bl) : ∀ i, i < m → ∀ b, b < n → M_kinOf M (Int32.ofNat (cw i)) (Int32.ofNat b) = some (Int64.ofNat (kn i b)) := h.2.2.2.2.2.2.2.1
theorem RX.bull {M : Me} (h : RX M m n cw l mo kn bl) : ∀ b, b < n → M_isBull M (Int32.ofNat b) = some (if bl b = true then 1 else 0) := h.2.2.2.2.2.2.2.2.1
theorem RX.hb {M : Me} (h : RX M m n cw l mo kn bl) : ∀ i b, kn i b ≤ 1125899906842624 := h.2.2.2.2.2.2.2.2.2
theorem RX_Fr {M M' : Me} (h : RX M m n cw l mo kn bl) (g : FrS M M') : RX M' m n cw l mo kn bl := by
  refine ⟨h.hm, h.hn, h.hl, h.hmo, by rw [g.2]; exact h.f5, by rw [g.2]; exact h.f7, fun i hi => by rw [g.1 20 (by decide) (by decide) (by decide)]; exact h.2.2.2.2.2.2.1 i hi, fun i hi b hb => ?_, fun b hb => ?_, h.hb⟩
  · rw [← h.hk i hi b hb]
    unfold M_kinOf gL
    rw [g.2]
  · rw [← h.bull b hb]
    unfold M_isBull gI
    rw [g.1 14 (by decide) (by decide) (by decide), g.1 16 (by decide) (by decide) (by decide)]
theorem bull_if {α : Type} {b : Bool} (x y : Option α) : (if (if b = true then (1 : Int32) else 0) = 0 then x else y) = if b = true then y else x := by
  cases b
  · rfl
  · rfl
theorem nextL {M : Me} (c : RX M m n cw l mo kn bl) {k : Nat} (hk : k < m) {U : Nat → Nat} (hU : ∀ x, x < n → M.1 23 x = Int32.ofNat (U x)) (hU5 : ∀ x, U x ≤ 5) : ∀ (e x F : Nat), x + e = n → e < F → ∃ r, M_nextBull_L3 M F (Int32.ofNat (cw k)) (Int32.ofNat l) (Int64.ofNat mo) (Int32.ofNat x) = some (Int32.ofNat r) ∧ x ≤ r ∧ r ≤ n ∧ (r < n → bl r = true ∧ U r < l ∧ kn k r ≤ mo) ∧ ∀ y, x ≤ y → y < r → ¬ (bl y = true ∧ U y < l ∧ kn k y ≤ mo) := by
  have hn := c.hn
  have hl := c.hl
  intro e
  induction e with
  | zero =>
    intro x F hx hF
    obtain ⟨F, rfl⟩ := succ_of hF
    have hx2 : x = n := by omega
    subst hx2
    refine ⟨x, ?_, Nat.le_refl _, Nat.le_refl _, fun q => absurd q (by omega), fun y h1 h2 => by omega⟩
    show M_nextBull_b3 _ _ _ _ _ _ = _
    unfold M_nextBull_b3
    rw [c.f5, if_pos (Int32.le_refl _)]
  | succ e ih =>
    intro x F hx hF
    obtain ⟨F, rfl⟩ := succ_of hF
    have e0 : M_nextBull_L3 M (F + 1) (Int32.ofNat (cw k)) (Int32.ofNat l) (Int64.ofNat mo) (Int32.ofNat x) = M_nextBull_b3 M (M_nextBull_L3 M F) (Int32.ofNat (cw k)) (Int32.ofNat l) (Int64.ofNat mo) (Int32.ofNat x) := rfl
    have skip : ¬ (bl x = true ∧ U x < l ∧ kn k x ≤ mo) → M_nextBull_L3 M (F + 1) (Int32.ofNat (cw k)) (Int32.ofNat l) (Int64.ofNat mo) (Int32.ofNat x) = M_nextBull_L3 M F (Int32.ofNat (cw k)) (Int32.ofNat l) (Int64.ofNat mo) (Int32.ofNat (x + 1)) → ∃ r, M_nextBull_L3 M (F + 1) (Int32.ofNat (cw k)) (Int32.ofNat l) (Int64.ofNat mo) (Int32.ofNat x) = some (Int32.ofNat r) ∧ x ≤ r ∧ r ≤ n ∧ (r < n → bl r = true ∧ U r < l ∧ kn k r ≤ mo) ∧ ∀ y, x ≤ y → y < r → ¬ (bl y = true ∧ U y < l ∧ kn k y ≤ mo) := fun h1 h2 => by
      obtain ⟨r, r1, r2, r3, r4, r5⟩ := ih (x + 1) F (by omega) (by omega)
      refine ⟨r, h2.trans r1, by omega, r3, r4, fun y y1 y2 => ?_⟩
      by_cases hy : y = x
      · rw [hy]; exact h1
      · exact r5 y (by omega) y2
    have hu := hU5 x
    cases hq : bl x
    · refine skip (fun w => by rw [hq] at w; exact absurd w.1 (by decide)) ?_
      rw [e0]
      unfold M_nextBull_b3
      rw [c.f5, if_neg (by rw [of_le (by omega) (by omega)]; omega), c.bull x (by omega), hq, Option.bind_some, bull_if, if_neg (by decide), of_s]
    · by_cases h1 : U x < l
      · by_cases h2 : kn k x ≤ mo
        · refine ⟨x, ?_, Nat.le_refl _, by omega, fun _ => ⟨hq, h1, h2⟩, fun y y1 y2 => by omega⟩
          rw [e0]
          unfold M_nextBull_b3
          have := c.hb k x
          rw [c.f5, if_neg (by rw [of_le (by omega) (by omega)]; omega), c.bull x (by omega), hq, Option.bind_some, bull_if, if_pos rfl, gd_in (by omega) (by omega), gI_of M 23 (by omega), hU x (by omega), if_neg (by rw [of_le (by omega) (by omega)]; omega), c.hk k hk x (by omega), Option.bind_some, if_pos ((l_le (by omega) c.hmo).mpr h2)]
        · refine skip (fun w => h2 w.2.2) ?_
          rw [e0]
          unfold M_nextBull_b3
          have := c.hb k x
          rw [c.f5, if_neg (by rw [of_le (by omega) (by omega)]; omega), c.bull x (by omega), hq, Option.bind_some, bull_if, if_pos rfl, gd_in (by omega) (by omega), gI_of M 23 (by omega), hU x (by omega), if_neg (by rw [of_le (by omega) (by omega)]; omega), c.hk k hk x (by omega), Option.bind_some, if_neg (fun w => h2 ((l_le (by omega) c.hmo).mp w)), of_s]
      · refine skip (fun w => h1 w.2.1) ?_
        rw [e0]
        unfold M_nextBull_b3
        rw [c.f5, if_neg (by rw [of_le (by omega) (by omega)]; omega), c.bull x (by omega), hq, Option.bind_some, bull_if, if_pos rfl, gd_in (by omega) (by omega), gI_of M 23 (by omega), hU x (by omega), if_pos (by rw [of_le (by omega) (by omega)]; omega), of_s]
theorem leastI {M : Me} (c : RX M m n cw l mo kn bl) {i : Nat} (hi : i < m) (rec6 : Int64 → Int64 → Int32 → Option Int64) (A : Int64) : ∀ (e x F u : Nat), x + e = n → e < F → u < 9223372036854775808 → ∃ w, w ≤ u ∧ (∀ y, x ≤ y → y < n → bl y = true → w ≤ kn i y) ∧ M_leastFrom_L21 M rec6 F (Int64.ofNat mo) A (Int32.ofNat i) (Int64.ofNat u) (Int32.ofNat x) = rec6 (Int64.ofNat mo) (A + Int64.ofNat w) (Int32.ofNat (i + 1)) := by
  have hn := c.hn
  have hm := c.hm
  intro e
  induction e with
  | zero =>
    intro x F u hx hF hu
    obtain ⟨F, rfl⟩ := succ_of hF
    have hx2 : x = n := by omega
    subst hx2
    refine ⟨u, Nat.le_refl _, fun y h1 h2 => by omega, ?_⟩
    show M_leastFrom_b21 _ _ _ _ _ _ _ _ = _
    unfold M_leastFrom_b21
    rw [c.f5, if_pos (Int32.le_refl _), of_s]
  | succ e ih =>
    intro x F u hx hF hu
    obtain ⟨F, rfl⟩ := succ_of hF
    have e0 : M_leastFrom_L21 M rec6 (F + 1) (Int64.ofNat mo) A (Int32.ofNat i) (Int64.ofNat u) (Int32.ofNat x) = M_leastFrom_b21 M rec6 (M_leastFrom_L21 M rec6 F) (Int64.ofNat mo) A (Int32.ofNat i) (Int64.ofNat u) (Int32.ofNat x) := rfl
    rw [e0]
    unfold M_leastFrom_b21
    rw [c.f5, if_neg (by rw [of_le (by omega) (by omega)]; omega), c.bull x (by omega), Option.bind_some, bull_if, of_s]
    cases hq : bl x
    · rw [if_neg (by decide)]
      obtain ⟨w, w1, w2, w3⟩ := ih (x + 1) F u (by omega) (by omega) hu
      refine ⟨w, w1, fun y y1 y2 y3 => ?_, w3⟩
      by_cases hy : y = x
      · rw [hy, hq] at y3; exact absurd y3 (by decide)
      · exact w2 y (by omega) y2 y3
    · have hb := c.hb i x
      rw [if_pos rfl, gd_in (by omega) (by omega), gd_in (by omega) (by omega), c.hc hi, c.hk i hi x (by omega), Option.bind_some, Option.bind_some]
      by_cases h1 : u ≤ kn i x
      · rw [if_pos ((l_le hu (by omega)).mpr h1)]
        obtain ⟨w, w1, w2, w3⟩ := ih (x + 1) F u (by omega) (by omega) hu
        refine ⟨w, w1, fun y y1 y2 y3 => ?_, w3⟩
        by_cases hy : y = x
        · rw [hy]; omega
        · exact w2 y (by omega) y2 y3
      · rw [if_neg (fun q => h1 ((l_le hu (by omega)).mp q))]
        obtain ⟨w, w1, w2, w3⟩ := ih (x + 1) F (kn i x) (by omega) (by omega) (by omega)
        refine ⟨w, by omega, fun y y1 y2 y3 => ?_, w3⟩
        by_cases hy : y = x
        · rw [hy]; exact w1
        · exact w2 y (by omega) y2 y3
theorem leastL {M : Me} (c : RX M m n cw l mo kn bl) {b0 : Nat} (hb0 : b0 < n) (hbl : bl b0 = true) : ∀ (e i F acc : Nat), i + e = m → e < F → ∃ q, M_leastFrom_L6 M F (Int64.ofNat mo) (Int64.ofNat acc) (Int32.ofNat i) = some (Int64.ofNat (acc + q)) ∧ q ≤ e * 1125899906842624 ∧ ∀ g : Nat → Nat, (∀ j, j < m → g j < n ∧ bl (g j) = true) → q ≤ tl kn m i g := by
  have hn := c.hn
  have hm := c.hm
  intro e
  induction e with
  | zero =>
    intro i F acc hi hF
    obtain ⟨F, rfl⟩ := succ_of hF
    have hi2 : i = m := by omega
    subst hi2
    refine ⟨0, ?_, by omega, fun g _ => Nat.zero_le _⟩
    show M_leastFrom_b6 _ _ _ _ _ = _
    unfold M_leastFrom_b6
    rw [c.f7, if_pos (Int32.le_refl _)]
    rfl
  | succ e ih =>
    intro i F acc hi hF
    obtain ⟨F, rfl⟩ := succ_of hF
    obtain ⟨w, w1, w2, w3⟩ := leastI c (show i < m by omega) (M_leastFrom_L6 M F) (Int64.ofNat acc) n 0 64 mo (by omega) (by omega) c.hmo
    obtain ⟨q, q1, q2, q3⟩ := ih (i + 1) F (acc + w) (by omega) (by omega)
    have hw := w2 b0 (by omega) hb0 hbl
    have hkb := c.hb i b0
    refine ⟨w + q, ?_, by omega, fun g hg => ?_⟩
    · have e0 : M_leastFrom_L6 M (F + 1) (Int64.ofNat mo) (Int64.ofNat acc) (Int32.ofNat i) = M_leastFrom_b6 M (M_leastFrom_L6 M F) (Int64.ofNat mo) (Int64.ofNat acc) (Int32.ofNat i) := rfl
      rw [e0]
      unfold M_leastFrom_b6
      rw [c.f7, if_neg (by rw [of_le (by omega) (by omega)]; omega)]
      refine w3.trans ?_
      rw [l_add, q1, Nat.add_assoc]
    · rw [tl_s (by omega) hm]
      have h1 := w2 (g i) (by omega) (hg i (by omega)).1 (hg i (by omega)).2
      have h2 := q3 g hg
      omega
/-- the best of all lists whose code lies below P -/
def BS (kn : Nat → Nat → Nat) (bl : Nat → Bool) (mo l m n : Nat) (P : Nat) (v : Int64) (M : Me) : Prop := (v = -1 ∧ ∀ f, FL kn bl mo l m n f → ¬ dl5 m f < P) ∨ ∃ f, FL kn bl mo l m n f ∧ dl5 m f < P ∧ v = Int64.ofNat (sl5 kn m f) ∧ (∀ i, i < m → M.1 22 i = Int32.ofNat (f i)) ∧ ∀ g, FL kn bl mo l m n g → dl5 m g < P → sl5 kn m f * 33554432 + dl5 m f ≤ sl5 kn m g * 33554432 + dl5 m g
/-- between P and Q no list can be better -/
theorem BS_to {P Q : Nat} {v : Int64} {M M' : Me} (hPQ : P ≤ Q) (h22 : M'.1 22 = M.1 22) (h : BS kn bl mo l m n P v M) (hno : ∀ g, FL kn bl mo l m n g → P ≤ dl5 m g → dl5 m g < Q → ∃ x, v = Int64.ofNat x ∧ x < 9223372036854775808 ∧ x ≤ sl5 kn m g) (hk : ∀ i b, kn i b ≤ 1125899906842624) : BS kn bl mo l m n Q v M' := by
  rcases h with ⟨h1, h2⟩ | ⟨f, h1, h2, h3, h4, h5⟩
  · refine Or.inl ⟨h1, fun f hf q => ?_⟩
    obtain ⟨x, x1, x2, -⟩ := hno f hf (by have := h2 f hf; omega) q
    rw [h1] at x1
    exact l_nm1 x2 x1.symm
  · refine Or.inr ⟨f, h1, by omega, h3, by rw [h22]; exact h4, fun g hg q => ?_⟩
    by_cases w : dl5 m g < P
    · exact h5 g hg w
    · obtain ⟨x, x1, x2, x3⟩ := hno g hg (by omega) q
      have hs := sl_le (m := m) (f := f) hk
      rw [h3] at x1
      have := (l_eq (by omega) x2).mp x1
      omega
end FIND
