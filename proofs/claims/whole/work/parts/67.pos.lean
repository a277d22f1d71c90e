/-! positions of the reference's search, as numbers -/
section POS
def at5 (a : Nat → Nat) (k v : Nat) : Nat → Nat := fun i => if i < k then a i else if i = k then v else 0
theorem lex {a g : Nat → Nat} {v w : Nat} (hg : ∀ i, i < 5 → g i < 32) : ∀ k, k < 5 → (∀ i, i < k → a i < 32) → v ≤ 32 → w ≤ 32 → c5 (at5 a k v) ≤ c5 g → c5 g < c5 (at5 a k w) → (∀ i, i < k → g i = a i) ∧ v ≤ g k ∧ g k < w := by
  have g0 := hg 0 (by omega)
  have g1 := hg 1 (by omega)
  have g2 := hg 2 (by omega)
  have g3 := hg 3 (by omega)
  have g4 := hg 4 (by omega)
  refine lt5 (fun ha hv hw h1 h2 => ?_) (fun ha hv hw h1 h2 => ?_) (fun ha hv hw h1 h2 => ?_) (fun ha hv hw h1 h2 => ?_) (fun ha hv hw h1 h2 => ?_)
  · simp [c5, at5] at h1 h2
    exact ⟨fun i hi => by omega, by omega, by omega⟩
  · have a0 := ha 0 (by omega)
    simp [c5, at5] at h1 h2
    refine ⟨fun i hi => ?_, by omega, by omega⟩
    have : i = 0 := by omega
    subst this; omega
  · have a0 := ha 0 (by omega)
    have a1 := ha 1 (by omega)
    simp [c5, at5] at h1 h2
    refine ⟨fun i hi => ?_, by omega, by omega⟩
    have : i = 0 ∨ i = 1 := by omega
    rcases this with q | q <;> subst q <;> omega
  · have a0 := ha 0 (by omega)
    have a1 := ha 1 (by omega)
    have a2 := ha 2 (by omega)
    simp [c5, at5] at h1 h2
    refine ⟨fun i hi => ?_, by omega, by omega⟩
    have : i = 0 ∨ i = 1 ∨ i = 2 := by omega
    rcases this with q | q | q <;> subst q <;> omega
  · have a0 := ha 0 (by omega)
    have a1 := ha 1 (by omega)
    have a2 := ha 2 (by omega)
    have a3 := ha 3 (by omega)
    simp [c5, at5] at h1 h2
    refine ⟨fun i hi => ?_, by omega, by omega⟩
    have : i = 0 ∨ i = 1 ∨ i = 2 ∨ i = 3 := by omega
    rcases this with q | q | q | q <;> subst q <;> omega
theorem at5_lt {a : Nat → Nat} {v w : Nat} (h : v < w) : ∀ k, k < 5 → c5 (at5 a k v) < c5 (at5 a k w) := by
  refine lt5 ?_ ?_ ?_ ?_ ?_ <;> simp [c5, at5] <;> omega
theorem at5_le {a : Nat → Nat} {v w k : Nat} (h : v ≤ w) (hk : k < 5) : c5 (at5 a k v) ≤ c5 (at5 a k w) := by
  by_cases q : v = w
  · rw [q]; exact Nat.le_refl _
  · exact Nat.le_of_lt (at5_lt (by omega) k hk)
def pos (T : Nat → Nat) (k : Nat) : Nat := c5 (fun i => if i < k then T i - 1 else T i)
theorem pos_at {T : Nat → Nat} {k : Nat} (h0 : ∀ i, k < i → T i = 0) : pos T k = c5 (at5 (fun i => T i - 1) k (T k)) := by
  refine c5_congr (fun i hi => ?_)
  show (if i < k then T i - 1 else T i) = (if i < k then T i - 1 else if i = k then T k else 0)
  by_cases h : i < k
  · rw [if_pos h, if_pos h]
  · rw [if_neg h, if_neg h]
    by_cases h2 : i = k
    · rw [if_pos h2, h2]
    · rw [if_neg h2, h0 i (by omega)]
theorem pos_up {T : Nat → Nat} : ∀ k, k < 4 → 1 ≤ T k → (∀ i, k < i → T i = 0) → pos T k = c5 (at5 (fun i => T i - 1) (k + 1) 32) := by
  intro k hk h1 h0
  rw [pos_at h0]
  have : k = 0 ∨ k = 1 ∨ k = 2 ∨ k = 3 := by omega
  rcases this with q | q | q | q <;> subst q <;> simp [c5, at5] <;> omega
theorem pos_lt {T : Nat → Nat} {k : Nat} (h : ∀ i, i < 5 → T i < 32) : pos T k < 33554432 := c5_lt (fun i hi => by
  have := h i hi
  show (if i < k then T i - 1 else T i) < 32
  split <;> omega)
variable (kn : Nat → Nat → Nat) (bl : Nat → Bool) (mo l m n : Nat)
def cl5 (f : Nat → Nat) (x : Nat) : Nat := s5 (fun i => if i < m ∧ f i = x then 1 else 0)
def sl5 (f : Nat → Nat) : Nat := s5 (fun i => if i < m then kn i (f i) else 0)
def dl5 (f : Nat → Nat) : Nat := c5 (fun i => if i < m then f i else 0)
def FL (f : Nat → Nat) : Prop := (∀ i, i < m → f i < n ∧ bl (f i) = true ∧ kn i (f i) ≤ mo) ∧ ∀ x, cl5 m f x ≤ l
def cu (T : Nat → Nat) (x : Nat) : Nat := s5 (fun i => if T i = x + 1 then 1 else 0)
def su (T : Nat → Nat) : Nat := s5 (fun i => if T i = 0 then 0 else kn i (T i - 1))
def clr (T : Nat → Nat) (k v : Nat) : Nat → Nat := fun i => if i = k then v else T i
theorem all_bit : ∀ m, m < 6 → ∀ i, i < 5 → (2 ^ m - 1).testBit i = decide (i < m) := by decide +kernel
variable {kn bl mo l m n}
theorem FL_FE (hm : m ≤ 5) (f : Nat → Nat) : FE kn bl mo l n (2 ^ m - 1) f ↔ FL kn bl mo l m n f := by
  have e : ∀ x, ct (2 ^ m - 1) f x = cl5 m f x := fun x => s5_congr (fun i hi => by rw [all_bit m (by omega) i hi]; simp)
  refine ⟨fun h => ⟨fun i hi => h.1 i (by omega) (by rw [all_bit m (by omega) i (by omega)]; simp [hi]), fun x => by rw [← e]; exact h.2 x⟩, fun h => ⟨fun i hi q => h.1 i (by rw [all_bit m (by omega) i hi] at q; simpa using q), fun x => by rw [e]; exact h.2 x⟩⟩
theorem sk_sl (hm : m ≤ 5) (f : Nat → Nat) : sk kn (2 ^ m - 1) f = sl5 kn m f := s5_congr (fun i hi => by rw [all_bit m (by omega) i hi]; simp)
theorem cd_dl (hm : m ≤ 5) (f : Nat → Nat) : cd (2 ^ m - 1) f = dl5 m f := c5_congr (fun i hi => by rw [all_bit m (by omega) i hi]; simp)
theorem dl_lt (hn : n ≤ 24) {f : Nat → Nat} (h : FL kn bl mo l m n f) : dl5 m f < 33554432 := c5_lt (fun i hi => by
  by_cases q : i < m
  · have := (h.1 i q).1
    simp only [if_pos q]
    omega
  · simp only [if_neg q]
    omega)
theorem dg_lt (hn : n ≤ 24) {f : Nat → Nat} (h : FL kn bl mo l m n f) : ∀ i, i < 5 → (if i < m then f i else 0) < 32 := fun i hi => by
  by_cases q : i < m
  · have := (h.1 i q).1
    rw [if_pos q]
    omega
  · rw [if_neg q]
    omega
theorem su_clr {T : Nat → Nat} {k : Nat} (hk : k < 5) (h : T k = 0) (b : Nat) : su kn (clr T k (b + 1)) = su kn T + kn k b := by
  rw [← s5_one k hk (kn k b)]
  refine s5_add (fun i hi => ?_)
  unfold clr one
  by_cases q : i = k
  · subst q
    simp [h]
  · simp [q]
theorem cu_clr {T : Nat → Nat} {k : Nat} (hk : k < 5) (h : T k = 0) (b x : Nat) : cu (clr T k (b + 1)) x = cu T x + (if b = x then 1 else 0) := by
  rw [← s5_one k hk (if b = x then 1 else 0)]
  refine s5_add (fun i hi => ?_)
  unfold clr one
  by_cases q : i = k
  · subst q
    simp [h]
  · simp [q]
theorem clr_clr {T : Nat → Nat} {k : Nat} (v w : Nat) : clr (clr T k v) k w = clr T k w := by
  funext i
  unfold clr
  by_cases q : i = k
  · simp [q]
  · simp [q]
theorem clr_id {T : Nat → Nat} {k : Nat} : clr T k (T k) = T := by
  funext i
  unfold clr
  by_cases q : i = k
  · simp [q]
  · simp [q]
theorem cu_le5 (T : Nat → Nat) (x : Nat) : cu T x ≤ 5 := by
  refine Nat.le_trans (s5_le (h := fun _ => 1) (fun i hi => ?_)) (Nat.le_refl _)
  split <;> omega
theorem su_le {T : Nat → Nat} (hk : ∀ i b, kn i b ≤ 1125899906842624) : su kn T ≤ 5629499534213120 := by
  have : su kn T ≤ s5 (fun _ => 1125899906842624) := s5_le (fun i hi => by
    split
    · omega
    · exact hk _ _)
  exact this
theorem sl_le {f : Nat → Nat} (hk : ∀ i b, kn i b ≤ 1125899906842624) : sl5 kn m f ≤ 5629499534213120 := by
  have : sl5 kn m f ≤ s5 (fun _ => 1125899906842624) := s5_le (fun i hi => by
    split
    · exact hk _ _
    · omega)
  exact this
/-- a list that begins as T does, up to k: its count and sum -/
theorem pre_cu {T g : Nat → Nat} {k : Nat} (hk : k < m) (hm : m ≤ 5) (h1 : ∀ i, i < k → 1 ≤ T i) (h0 : ∀ i, k ≤ i → T i = 0) (hg : ∀ i, i < k → g i = T i - 1) : cu T (g k) + 1 ≤ cl5 m g (g k) := by
  rw [← s5_one k (by omega) 1]
  unfold cu cl5
  rw [← s5_add (g := fun i => (if T i = g k + 1 then 1 else 0) + one k 1 i) (fun i _ => rfl)]
  refine s5_le (fun i hi => ?_)
  unfold one
  by_cases q : i < k
  · have e1 := h1 i q
    have e2 := hg i q
    rw [if_neg (show ¬ i = k by omega)]
    by_cases w : T i = g k + 1
    · rw [if_pos w, if_pos ⟨by omega, by omega⟩]
      omega
    · rw [if_neg w]
      omega
  · rw [h0 i (by omega), if_neg (by omega)]
    by_cases w : i = k
    · subst w
      rw [if_pos rfl, if_pos ⟨hk, rfl⟩]
      omega
    · rw [if_neg w]
      omega
def tl (kn : Nat → Nat → Nat) (m j : Nat) (g : Nat → Nat) : Nat := s5 (fun i => if j ≤ i ∧ i < m then kn i (g i) else 0)
theorem pre_su {T g : Nat → Nat} {k : Nat} (hk : k ≤ m) (h1 : ∀ i, i < k → 1 ≤ T i) (h0 : ∀ i, k ≤ i → T i = 0) (hg : ∀ i, i < k → g i = T i - 1) : sl5 kn m g = su kn T + tl kn m k g := by
  refine s5_add (fun i hi => ?_)
  by_cases q : i < k
  · have e1 := h1 i q
    have e2 := hg i q
    rw [if_pos (show i < m by omega), if_neg (show ¬ T i = 0 by omega), if_neg (by omega), e2, Nat.add_zero]
  · rw [h0 i (by omega), if_pos rfl, Nat.zero_add]
    by_cases w : i < m
    · rw [if_pos w, if_pos ⟨by omega, w⟩]
    · rw [if_neg w, if_neg (by omega)]
theorem tl_s {j : Nat} (hj : j < m) (hm : m ≤ 5) (g : Nat → Nat) : tl kn m j g = kn j (g j) + tl kn m (j + 1) g := by
  rw [← s5_one j (by omega) (kn j (g j))]
  refine s5_add (fun i hi => ?_)
  unfold one
  by_cases q : i = j
  · subst q
    rw [if_pos ⟨Nat.le_refl _, hj⟩, if_pos rfl, if_neg (by omega)]
    omega
  · rw [if_neg q, Nat.zero_add]
    by_cases w : j + 1 ≤ i ∧ i < m
    · rw [if_pos ⟨by omega, w.2⟩, if_pos w]
    · rw [if_neg (by omega), if_neg w]
end POS
