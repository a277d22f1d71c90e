/-! lists of bulls: the least (sum, code), subset by subset -/
section OPT
def s5 (g : Nat → Nat) : Nat := g 0 + g 1 + g 2 + g 3 + g 4
def c5 (g : Nat → Nat) : Nat := (((g 0 * 32 + g 1) * 32 + g 2) * 32 + g 3) * 32 + g 4
def c2 (g : Nat → Bool) : Nat := s5 (fun i => if g i = true then 2 ^ i else 0)
theorem lt5 {P : Nat → Prop} (h0 : P 0) (h1 : P 1) (h2 : P 2) (h3 : P 3) (h4 : P 4) : ∀ i, i < 5 → P i := by
  intro i hi
  match i, hi with
  | 0, _ => exact h0
  | 1, _ => exact h1
  | 2, _ => exact h2
  | 3, _ => exact h3
  | 4, _ => exact h4
theorem s5_congr {g h : Nat → Nat} (e : ∀ i, i < 5 → g i = h i) : s5 g = s5 h := by
  unfold s5
  rw [e 0 (by omega), e 1 (by omega), e 2 (by omega), e 3 (by omega), e 4 (by omega)]
theorem c5_congr {g h : Nat → Nat} (e : ∀ i, i < 5 → g i = h i) : c5 g = c5 h := by
  unfold c5
  rw [e 0 (by omega), e 1 (by omega), e 2 (by omega), e 3 (by omega), e 4 (by omega)]
theorem s5_add {g h k : Nat → Nat} (e : ∀ i, i < 5 → g i = h i + k i) : s5 g = s5 h + s5 k := by
  unfold s5
  rw [e 0 (by omega), e 1 (by omega), e 2 (by omega), e 3 (by omega), e 4 (by omega)]
  omega
theorem c5_add {g h k : Nat → Nat} (e : ∀ i, i < 5 → g i = h i + k i) : c5 g = c5 h + c5 k := by
  unfold c5
  rw [e 0 (by omega), e 1 (by omega), e 2 (by omega), e 3 (by omega), e 4 (by omega)]
  omega
theorem s5_le {g h : Nat → Nat} (e : ∀ i, i < 5 → g i ≤ h i) : s5 g ≤ s5 h := by
  unfold s5
  have h0 := e 0 (by omega)
  have h1 := e 1 (by omega)
  have h2 := e 2 (by omega)
  have h3 := e 3 (by omega)
  have h4 := e 4 (by omega)
  omega
theorem c5_lt {g : Nat → Nat} (e : ∀ i, i < 5 → g i < 32) : c5 g < 33554432 := by
  unfold c5
  have h0 := e 0 (by omega)
  have h1 := e 1 (by omega)
  have h2 := e 2 (by omega)
  have h3 := e 3 (by omega)
  have h4 := e 4 (by omega)
  omega
theorem c5_inj {g h : Nat → Nat} (e : ∀ i, i < 5 → g i < 32) (e' : ∀ i, i < 5 → h i < 32) (q : c5 g = c5 h) : ∀ i, i < 5 → g i = h i := by
  unfold c5 at q
  have h0 := e 0 (by omega)
  have h1 := e 1 (by omega)
  have h2 := e 2 (by omega)
  have h3 := e 3 (by omega)
  have h4 := e 4 (by omega)
  have k0 := e' 0 (by omega)
  have k1 := e' 1 (by omega)
  have k2 := e' 2 (by omega)
  have k3 := e' 3 (by omega)
  have k4 := e' 4 (by omega)
  exact lt5 (by omega) (by omega) (by omega) (by omega) (by omega)
theorem c2_aux : ∀ a b c d e : Bool, ((if a = true then 2 ^ 0 else 0) + (if b = true then 2 ^ 1 else 0) + (if c = true then 2 ^ 2 else 0) + (if d = true then 2 ^ 3 else 0) + (if e = true then 2 ^ 4 else 0) < 32 ∧ (Nat.testBit ((if a = true then 2 ^ 0 else 0) + (if b = true then 2 ^ 1 else 0) + (if c = true then 2 ^ 2 else 0) + (if d = true then 2 ^ 3 else 0) + (if e = true then 2 ^ 4 else 0)) 0 = a ∧ Nat.testBit ((if a = true then 2 ^ 0 else 0) + (if b = true then 2 ^ 1 else 0) + (if c = true then 2 ^ 2 else 0) + (if d = true then 2 ^ 3 else 0) + (if e = true then 2 ^ 4 else 0)) 1 = b ∧ Nat.testBit ((if a = true then 2 ^ 0 else 0) + (if b = true then 2 ^ 1 else 0) + (if c = true then 2 ^ 2 else 0) + (if d = true then 2 ^ 3 else 0) + (if e = true then 2 ^ 4 else 0)) 2 = c ∧ Nat.testBit ((if a = true then 2 ^ 0 else 0) + (if b = true then 2 ^ 1 else 0) + (if c = true then 2 ^ 2 else 0) + (if d = true then 2 ^ 3 else 0) + (if e = true then 2 ^ 4 else 0)) 3 = d ∧ Nat.testBit ((if a = true then 2 ^ 0 else 0) + (if b = true then 2 ^ 1 else 0) + (if c = true then 2 ^ 2 else 0) + (if d = true then 2 ^ 3 else 0) + (if e = true then 2 ^ 4 else 0)) 4 = e)) := by decide +kernel
theorem c2_lt (g : Nat → Bool) : c2 g < 32 := (c2_aux (g 0) (g 1) (g 2) (g 3) (g 4)).1
theorem c2_bit (g : Nat → Bool) : ∀ i, i < 5 → (c2 g).testBit i = g i := by
  obtain ⟨h0, h1, h2, h3, h4⟩ := (c2_aux (g 0) (g 1) (g 2) (g 3) (g 4)).2
  exact lt5 h0 h1 h2 h3 h4
theorem ext32 : ∀ s, s < 32 → ∀ t, t < 32 → (∀ i, i < 5 → s.testBit i = t.testBit i) → s = t := by decide +kernel
def sub (p s : Nat) : Prop := ∀ i, i < 5 → p.testBit i = true → s.testBit i = true
def dfs (s p : Nat) : Nat := c2 (fun i => s.testBit i && !p.testBit i)
theorem dfs_lt (s p : Nat) : dfs s p < 32 := c2_lt _
theorem dfs_bit (s p : Nat) : ∀ i, i < 5 → (dfs s p).testBit i = (s.testBit i && !p.testBit i) := c2_bit _
def mask (s : Nat) (f : Nat → Nat) (b : Nat) : Nat := c2 (fun i => s.testBit i && decide (f i = b))
theorem mask_lt (s : Nat) (f : Nat → Nat) (b : Nat) : mask s f b < 32 := c2_lt _
theorem mask_bit (s : Nat) (f : Nat → Nat) (b : Nat) : ∀ i, i < 5 → (mask s f b).testBit i = (s.testBit i && decide (f i = b)) := c2_bit _
variable (kn : Nat → Nat → Nat) (bl : Nat → Bool) (mo l : Nat)
def sk (s : Nat) (f : Nat → Nat) : Nat := s5 (fun i => if s.testBit i = true then kn i (f i) else 0)
def cd (s : Nat) (f : Nat → Nat) : Nat := c5 (fun i => if s.testBit i = true then f i else 0)
def ct (s : Nat) (f : Nat → Nat) (x : Nat) : Nat := s5 (fun i => if s.testBit i = true ∧ f i = x then 1 else 0)
def key (s : Nat) (f : Nat → Nat) : Nat := sk kn s f * 33554432 + cd s f
def pc (p : Nat) : Nat := s5 (fun i => if p.testBit i = true then 1 else 0)
/-- a list for the cows of s, with bulls below b -/
def FE (b s : Nat) (f : Nat → Nat) : Prop := (∀ i, i < 5 → s.testBit i = true → f i < b ∧ bl (f i) = true ∧ kn i (f i) ≤ mo) ∧ ∀ x, ct s f x ≤ l
def SV (b p : Nat) : Prop := pc p ≤ l ∧ ∀ i, i < 5 → p.testBit i = true → kn i b ≤ mo
def OP (A : (Nat → Nat) → Prop) (s : Nat) : Option (Nat × Nat) → Prop
  | none => ∀ f, ¬ A f
  | some o => ∃ f, A f ∧ o.1 = sk kn s f ∧ o.2 = cd s f ∧ ∀ g, A g → key kn s f ≤ key kn s g
variable {kn bl mo l}
theorem split_sk {s p : Nat} {f g h : Nat → Nat} (hs : sub p s) (h1 : ∀ i, i < 5 → p.testBit i = true → f i = h i) (h2 : ∀ i, i < 5 → s.testBit i = true → p.testBit i = false → f i = g i) : sk kn s f = sk kn (dfs s p) g + sk kn p h ∧ cd s f = cd (dfs s p) g + cd p h := by
  refine ⟨s5_add (fun i hi => ?_), c5_add (fun i hi => ?_)⟩
  · rw [dfs_bit s p i hi]
    cases hp : p.testBit i
    · cases hq : s.testBit i
      · simp
      · simp [h2 i hi hq hp]
    · have := hs i hi hp
      simp [this, h1 i hi hp]
  · rw [dfs_bit s p i hi]
    cases hp : p.testBit i
    · cases hq : s.testBit i
      · simp
      · simp [h2 i hi hq hp]
    · have := hs i hi hp
      simp [this, h1 i hi hp]
theorem FE_down {b s : Nat} {f : Nat → Nat} (h : FE kn bl mo l (b + 1) s f) : sub (mask s f b) s ∧ FE kn bl mo l b (dfs s (mask s f b)) f ∧ SV kn mo l b (mask s f b) := by
  have hsub : sub (mask s f b) s := fun i hi q => by
    rw [mask_bit s f b i hi] at q
    cases hq : s.testBit i
    · rw [hq] at q; simp at q
    · rfl
  refine ⟨hsub, ⟨fun i hi q => ?_, fun x => ?_⟩, ?_, fun i hi q => ?_⟩
  · rw [dfs_bit s _ i hi, mask_bit s f b i hi] at q
    have hq : s.testBit i = true := by
      cases hq : s.testBit i
      · rw [hq] at q; simp at q
      · rfl
    have hf : ¬ f i = b := fun w => by
      rw [hq, w] at q; simp at q
    have := h.1 i hi hq
    exact ⟨by omega, this.2⟩
  · refine Nat.le_trans (s5_le (fun i hi => ?_)) (h.2 x)
    rw [dfs_bit s _ i hi]
    cases hq : s.testBit i
    · simp
    · simp only [Bool.true_and]
      by_cases hx : f i = x
      · simp only [hx, and_true, if_true]
        split <;> omega
      · simp [hx]
  · refine Nat.le_trans (s5_le (fun i hi => ?_)) (h.2 b)
    rw [mask_bit s f b i hi]
    cases hq : s.testBit i
    · simp
    · by_cases hx : f i = b
      · simp [hx]
      · simp [hx]
  · rw [mask_bit s f b i hi] at q
    have hq : s.testBit i = true := by
      cases hq : s.testBit i
      · rw [hq] at q; simp at q
      · rfl
    have hf : f i = b := by
      rw [hq] at q; simpa using q
    have := (h.1 i hi hq).2.2
    rw [hf] at this
    exact this
theorem FE_up {b s p : Nat} {g : Nat → Nat} (hp : p < 32) (hs : sub p s) (hb : bl b = true) (h : FE kn bl mo l b (dfs s p) g) (hv : SV kn mo l b p) : FE kn bl mo l (b + 1) s (fun i => if p.testBit i = true then b else g i) ∧ mask s (fun i => if p.testBit i = true then b else g i) b = p := by
  have k : ∀ i, i < 5 → s.testBit i = true → p.testBit i = false → g i < b ∧ bl (g i) = true ∧ kn i (g i) ≤ mo := fun i hi h1 h2 => h.1 i hi (by rw [dfs_bit s p i hi, h1, h2]; rfl)
  refine ⟨⟨fun i hi q => ?_, fun x => ?_⟩, ?_⟩
  · cases hq : p.testBit i
    · have := k i hi q hq
      simp only [hq, Bool.false_eq_true, if_false]
      exact ⟨by omega, this.2⟩
    · simp only [hq, if_true]
      exact ⟨by omega, hb, hv.2 i hi hq⟩
  · by_cases hx : x = b
    · subst hx
      refine Nat.le_trans (s5_le (fun i hi => ?_)) hv.1
      cases hq : p.testBit i
      · simp only [hq, Bool.false_eq_true, if_false]
        by_cases hw : s.testBit i = true
        · have := k i hi hw hq
          rw [if_neg (fun q => by omega)]
          exact Nat.le_refl _
        · rw [if_neg (fun q => hw q.1)]
          exact Nat.le_refl _
      · simp only [hq, if_true, and_true]
        by_cases hw : s.testBit i = true
        · rw [if_pos hw]; exact Nat.le_refl _
        · rw [if_neg hw]; omega
    · refine Nat.le_trans (s5_le (fun i hi => ?_)) (h.2 x)
      rw [dfs_bit s p i hi]
      cases hq : p.testBit i
      · simp [hq]
      · simp only [hq, if_true]
        rw [if_neg (fun q => hx q.2.symm)]
        exact Nat.zero_le _
  · refine ext32 _ (mask_lt _ _ _) _ hp (fun i hi => ?_)
    rw [mask_bit _ _ _ i hi]
    cases hq : p.testBit i
    · simp only [hq, Bool.false_eq_true, if_false]
      cases hw : s.testBit i
      · rfl
      · have := k i hi hw hq
        simp only [Bool.true_and, decide_eq_false_iff_not]
        omega
    · rw [hs i hi hq]
      simp
theorem OP_congr {A B : (Nat → Nat) → Prop} {s : Nat} {o : Option (Nat × Nat)} (h : ∀ f, A f ↔ B f) (q : OP kn A s o) : OP kn B s o := by
  cases o with
  | none => exact fun f hf => q f ((h f).mpr hf)
  | some o =>
    obtain ⟨f, h1, h2, h3, h4⟩ := q
    exact ⟨f, (h f).mp h1, h2, h3, fun g hg => h4 g ((h g).mpr hg)⟩
def better (o : Option (Nat × Nat)) (x c : Nat) : Option (Nat × Nat) :=
  match o with
  | none => some (x, c)
  | some (y, d) => if x < y ∨ (x = y ∧ c < d) then some (x, c) else some (y, d)
theorem OP_more {A B : (Nat → Nat) → Prop} {s : Nat} {o : Option (Nat × Nat)} {x c : Nat} (ha : OP kn A s o) (hb : OP kn B s (some (x, c))) (la : ∀ f, A f → cd s f < 33554432) (lb : ∀ f, B f → cd s f < 33554432) : OP kn (fun f => A f ∨ B f) s (better o x c) := by
  obtain ⟨f, h1, h2, h3, h4⟩ := hb
  cases o with
  | none => exact ⟨f, Or.inr h1, h2, h3, fun g hg => hg.elim (fun q => absurd q (ha g)) (h4 g)⟩
  | some o =>
    obtain ⟨y, d⟩ := o
    obtain ⟨f', k1, k2, k3, k4⟩ := ha
    have e1 := la f' k1
    have e2 := lb f h1
    simp only at h2 h3 k2 k3
    show OP kn _ s (if x < y ∨ (x = y ∧ c < d) then some (x, c) else some (y, d))
    by_cases hq : x < y ∨ (x = y ∧ c < d)
    · rw [if_pos hq]
      refine ⟨f, Or.inr h1, h2, h3, fun g hg => hg.elim (fun q => Nat.le_trans ?_ (k4 g q)) (h4 g)⟩
      unfold key
      omega
    · rw [if_neg hq]
      refine ⟨f', Or.inl k1, k2, k3, fun g hg => hg.elim (k4 g) (fun q => Nat.le_trans ?_ (h4 g q))⟩
      unfold key
      omega
theorem key_add {W A B C D P Q : Nat} (h : A * W + C ≤ B * W + D) : (A + P) * W + (C + Q) ≤ (B + P) * W + (D + Q) := by
  rw [Nat.add_mul, Nat.add_mul]
  omega
theorem OP_part {b s p : Nat} (hp : p < 32) (hs : sub p s) (hb : bl b = true) (hv : SV kn mo l b p) {x c : Nat} (h : OP kn (FE kn bl mo l b (dfs s p)) (dfs s p) (some (x, c))) : OP kn (fun f => FE kn bl mo l (b + 1) s f ∧ mask s f b = p) s (some (x + sk kn p (fun _ => b), c + cd p (fun _ => b))) := by
  obtain ⟨g, h1, h2, h3, h4⟩ := h
  have e := split_sk (kn := kn) (s := s) (p := p) (f := fun i => if p.testBit i = true then b else g i) (g := g) (h := fun _ => b) hs (fun i hi q => by simp [q]) (fun i hi q w => by simp [w])
  refine ⟨fun i => if p.testBit i = true then b else g i, FE_up hp hs hb h1 hv, ?_, ?_, fun f hf => ?_⟩
  · rw [e.1]; simp only at h2; rw [← h2]
  · rw [e.2]; simp only at h3; rw [← h3]
  · have k := FE_down hf.1
    rw [hf.2] at k
    have e' := split_sk (kn := kn) (s := s) (p := p) (f := f) (g := f) (h := fun _ => b) hs (fun i hi q => by
      rw [← hf.2, mask_bit s f b i hi] at q
      cases hq : s.testBit i
      · rw [hq] at q; simp at q
      · rw [hq] at q; simpa using q) (fun i hi q w => rfl)
    have := h4 f k.2.1
    unfold key at this ⊢
    rw [e.1, e.2, e'.1, e'.2]
    exact key_add this
theorem OP_none {b s p : Nat} (h : ¬ (sub p s ∧ SV kn mo l b p ∧ ∃ f, FE kn bl mo l b (dfs s p) f)) : ∀ f, ¬ (FE kn bl mo l (b + 1) s f ∧ mask s f b = p) := by
  intro f hf
  have k := FE_down hf.1
  rw [hf.2] at k
  exact h ⟨k.1, k.2.2, f, k.2.1⟩
theorem mask_le {s b : Nat} {f : Nat → Nat} (hs : s < 32) : mask s f b ≤ s := by
  have k : ∀ s, s < 32 → ∀ p, p < 32 → (∀ i, i < 5 → p.testBit i = true → s.testBit i = true) → p ≤ s := by decide +kernel
  refine k s hs _ (c2_lt _) (fun i hi q => ?_)
  have q' : (mask s f b).testBit i = true := q
  rw [mask_bit s f b i hi] at q'
  cases hq : s.testBit i
  · rw [hq] at q'; simp at q'
  · rfl
theorem mask_0 {s b : Nat} {f : Nat → Nat} (h : mask s f b = 0) : ∀ i, i < 5 → s.testBit i = true → ¬ f i = b := by
  intro i hi q w
  have := mask_bit s f b i hi
  rw [h, q, w] at this
  simp at this
theorem FE_same {b s : Nat} {f : Nat → Nat} : (FE kn bl mo l (b + 1) s f ∧ mask s f b < 1) ↔ FE kn bl mo l b s f := by
  refine ⟨fun h => ⟨fun i hi q => ?_, h.1.2⟩, fun h => ⟨⟨fun i hi q => ?_, h.2⟩, ?_⟩⟩
  · have := mask_0 (show mask s f b = 0 by omega) i hi q
    have k := h.1.1 i hi q
    exact ⟨by omega, k.2⟩
  · have k := h.1 i hi q
    exact ⟨by omega, k.2⟩
  · have : mask s f b = 0 := ext32 _ (mask_lt _ _ _) 0 (by omega) (fun i hi => by
      rw [mask_bit s f b i hi, Nat.zero_testBit]
      cases hq : s.testBit i
      · rfl
      · have k := h.1 i hi hq
        simp only [Bool.true_and, decide_eq_false_iff_not]
        omega)
    omega
theorem FE_dead {b s : Nat} {f : Nat → Nat} (hb : bl b = false) : FE kn bl mo l b s f ↔ FE kn bl mo l (b + 1) s f := by
  refine ⟨fun h => ⟨fun i hi q => ?_, h.2⟩, fun h => ⟨fun i hi q => ?_, h.2⟩⟩
  · have k := h.1 i hi q
    exact ⟨by omega, k.2⟩
  · have k := h.1 i hi q
    refine ⟨?_, k.2⟩
    by_cases hf : f i = b
    · rw [hf, hb] at k
      exact absurd k.2.1 (by simp)
    · omega
theorem FE_cd {b s : Nat} (hb : b ≤ 24) {f : Nat → Nat} (h : FE kn bl mo l b s f) : cd s f < 33554432 := c5_lt (fun i hi => by
  cases hq : s.testBit i
  · simp
  · have := (h.1 i hi hq).1
    simp only [if_true]
    omega)
theorem sk_le {s : Nat} {f : Nat → Nat} (hk : ∀ i b, kn i b ≤ 1125899906842624) : sk kn s f ≤ 5629499534213120 := by
  have : sk kn s f ≤ s5 (fun _ => 1125899906842624) := s5_le (fun i hi => by
    split
    · exact hk _ _
    · omega)
  exact this
end OPT
