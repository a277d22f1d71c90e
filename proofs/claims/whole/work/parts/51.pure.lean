/-! what class and reference keep, as one statement on the memory; small words -/
theorem gI_of (M : Me) (a : Nat) {k : Nat} (hk : k < 2147483648) : gI M a (Int32.ofNat k) = M.1 a k := by
  unfold gI; rw [of_cl hk]
theorem gL_of (M : Me) (a : Nat) {k : Nat} (hk : k < 2147483648) : gL M a (Int32.ofNat k) = M.2.1 a k := by
  unfold gL; rw [of_cl hk]
theorem gR_of (M : Me) {r k : Nat} (hr : r < 2147483648) (hk : k < 2147483648) : gR M (Int32.ofNat r) (Int32.ofNat k) = M.2.1 (8 + r) k := by
  unfold gR; rw [of_cl hr, of_cl hk]
theorem gd_in {α : Type} {k n : Nat} (h : k < n) (hn : n ≤ 2147483648) (x : Option α) : gd (inb (Int32.ofNat k) n) x = x := by rw [inb_of h hn, gd_true]
/-- a table filled from below, each place out of those before it -/
def Tb {α : Type} (step : (Nat → α) → Nat → α) (d : α) : Nat → Nat → α
  | 0 => fun _ => d
  | n + 1 => fun i => if i = n then step (Tb step d n) n else Tb step d n i
theorem Tb_old {α : Type} {step : (Nat → α) → Nat → α} {d : α} {n i : Nat} (h : i < n) : ∀ m : Nat, Tb step d (n + m) i = Tb step d n i := by
  intro m
  induction m with
  | zero => rfl
  | succ m ih =>
    show (if i = n + m then step (Tb step d (n + m)) (n + m) else Tb step d (n + m) i) = _
    rw [if_neg (by omega), ih]
theorem Tb_to {α : Type} {step : (Nat → α) → Nat → α} {d : α} {n m i : Nat} (h : i < n) (hm : n ≤ m) : Tb step d m i = Tb step d n i := by
  obtain ⟨e, rfl⟩ := Nat.exists_eq_add_of_le hm
  exact Tb_old h e
theorem Tb_at {α : Type} {step : (Nat → α) → Nat → α} {d : α} (n : Nat) : Tb step d (n + 1) n = step (Tb step d n) n := if_pos rfl
theorem Tb_val {α : Type} {step : (Nat → α) → Nat → α} {d : α} {n i : Nat} (h : i < n) : Tb step d n i = step (Tb step d i) i := by
  rw [Tb_to (n := i + 1) (by omega) (by omega), Tb_at]
theorem Tb_ext {α : Type} {step step' : (Nat → α) → Nat → α} {d : α} : ∀ n : Nat, (∀ i, i < n → ∀ T, step T i = step' T i) → Tb step d n = Tb step' d n := by
  intro n
  induction n with
  | zero => intro _; rfl
  | succ n ih =>
    intro h
    funext i
    show (if i = n then step (Tb step d n) n else Tb step d n i) = (if i = n then step' (Tb step' d n) n else Tb step' d n i)
    rw [ih (fun i hi => h i (by omega)), h n (by omega)]
def dq (T : Nat → Int32) (p : Int32) : Int32 := if p = -1 then 0 else T p.toNatClampNeg
/-- depth -/
def dstep (S D : Nat → Int32) : (Nat → Int32) → Nat → Int32 := fun T i => if S i = -1 ∧ D i = -1 then 0 else 1 + (if dq T (S i) < dq T (D i) then dq T (D i) else dq T (S i))
def fq (T : Nat → Int32) (p : Int32) : Int32 := if p = -1 then 0 else T p.toNatClampNeg ||| (1 <<< (p &&& 31))
/-- forebears, as bits -/
def fstep (S D : Nat → Int32) : (Nat → Int32) → Nat → Int32 := fun T i => fq T (S i) ||| fq T (D i)
def par (p : Int32) (i : Nat) : Prop := p = -1 ∨ ∃ k, k < i ∧ p = Int32.ofNat k
def IB (M : Me) (n : Nat) : Prop := n ≤ 24 ∧ M.2.2.1 0 = Int32.ofNat n ∧ M.2.2.1 5 = Int32.ofNat n
def IA (M : Me) (n : Nat) : Prop := ∀ i, i < n → M.1 12 i = M.1 0 i ∧ M.1 13 i = M.1 1 i ∧ M.1 14 i = M.1 5 i ∧ M.1 15 i = M.1 6 i
def IP (M : Me) (n : Nat) : Prop := ∀ i, i < n → par (M.1 0 i) i ∧ par (M.1 1 i) i
def IL (M : Me) (n : Nat) : Prop := (∀ i, i < n → (M.1 7 i = 1 ∧ M.1 16 i = 0) ∨ (M.1 7 i = 0 ∧ M.1 16 i = 1)) ∧ ∀ i, n ≤ i → i < 24 → M.1 16 i = 0
def IK (M : Me) (n : Nat) : Prop := ∀ a b, a < n → b < n → M.2.1 (8 + a) b = Kt (M.1 0) (M.1 1) n a b ∧ M.2.1 4 (24 * a + b) = Kt (M.1 0) (M.1 1) n a b
def II (M : Me) (n : Nat) : Prop := ∀ i, i < n → M.2.1 0 i = kp (Kt (M.1 0) (M.1 1) n) (M.1 0 i) (M.1 1 i) ∧ M.2.1 5 i = kp (Kt (M.1 0) (M.1 1) n) (M.1 0 i) (M.1 1 i)
def ID (M : Me) (n : Nat) : Prop := ∀ i, i < n → M.1 2 i = Tb (dstep (M.1 0) (M.1 1)) 0 n i ∧ M.1 3 i = Tb (fstep (M.1 0) (M.1 1)) 0 n i
def IJ (M : Me) (n : Nat) : Prop := (∀ i, i < 24 → M.1 19 i = M.1 8 i ∧ par (M.1 8 i) n ∧ (n ≤ i → M.1 8 i = -1)) ∧ ((M.2.2.1 1 = 0 ∧ M.2.2.1 6 = 0) ∨ (M.2.2.1 1 = 1 ∧ M.2.2.1 6 = 1))
def Inv (M : Me) (n : Nat) : Prop := IB M n ∧ IA M n ∧ IP M n ∧ IL M n ∧ IK M n ∧ II M n ∧ ID M n ∧ IJ M n
/-- arrays and fields that hold nothing from one call to the next -/
def scI (a : Nat) : Bool := [4, 9, 10, 11, 17, 18, 20, 21, 22, 23].contains a
def scL (a : Nat) : Bool := [1, 2, 3, 6, 7].contains a
def scF (a : Nat) : Bool := [2, 3, 4, 7].contains a
def Ag (M M' : Me) : Prop := (∀ a, scI a = false → M'.1 a = M.1 a) ∧ (∀ a, scL a = false → M'.2.1 a = M.2.1 a) ∧ ∀ a, scF a = false → M'.2.2.1 a = M.2.2.1 a
theorem Ag_rf (M : Me) : Ag M M := ⟨fun _ _ => rfl, fun _ _ => rfl, fun _ _ => rfl⟩
theorem Ag_tr {M M' M'' : Me} (h : Ag M M') (h' : Ag M' M'') : Ag M M'' := ⟨fun a ha => (h'.1 a ha).trans (h.1 a ha), fun a ha => (h'.2.1 a ha).trans (h.2.1 a ha), fun a ha => (h'.2.2 a ha).trans (h.2.2 a ha)⟩
theorem ne_sc {f : Nat → Bool} {a b : Nat} (ha : f a = true) (hb : f b = false) : ¬ b = a := fun h => by rw [h, ha] at hb; cases hb
theorem Ag_sI (M : Me) {a : Nat} (i x : Int32) (ha : scI a = true) : Ag M (sI M a i x) := ⟨fun b hb => if_neg (ne_sc ha hb), fun _ _ => rfl, fun _ _ => rfl⟩
theorem Ag_sL (M : Me) {a : Nat} (i : Int32) (x : Int64) (ha : scL a = true) : Ag M (sL M a i x) := ⟨fun _ _ => rfl, fun b hb => if_neg (ne_sc ha hb), fun _ _ => rfl⟩
theorem Ag_sF (M : Me) {a : Nat} (x : Int32) (ha : scF a = true) : Ag M (sF M a x) := ⟨fun _ _ => rfl, fun _ _ => rfl, fun b hb => if_neg (ne_sc ha hb)⟩
theorem Ag_sG (M : Me) {a : Nat} (x : Int64) : Ag M (sG M a x) := ⟨fun _ _ => rfl, fun _ _ => rfl, fun _ _ => rfl⟩
theorem Ag_fL (M : Me) {a : Nat} (n : Nat) (x : Int64) (ha : scL a = true) : Ag M (fL M a n x) := ⟨fun _ _ => rfl, fun b hb => if_neg (ne_sc ha hb), fun _ _ => rfl⟩
theorem scL_row (a : Nat) : scL (8 + a) = false := by
  unfold scL
  rw [Bool.eq_false_iff]
  intro h
  simp at h
  omega
theorem Inv_Ag {M M' : Me} {n : Nat} (g : Ag M M') (h : Inv M n) : Inv M' n := by
  obtain ⟨g1, g2, g3⟩ := g
  have e0 := g1 0 rfl
  have e1 := g1 1 rfl
  have e2 := g1 2 rfl
  have e3 := g1 3 rfl
  have e5 := g1 5 rfl
  have e6 := g1 6 rfl
  have e7 := g1 7 rfl
  have e8 := g1 8 rfl
  have e12 := g1 12 rfl
  have e13 := g1 13 rfl
  have e14 := g1 14 rfl
  have e15 := g1 15 rfl
  have e16 := g1 16 rfl
  have e19 := g1 19 rfl
  have l0 := g2 0 rfl
  have l4 := g2 4 rfl
  have l5 := g2 5 rfl
  have f0 := g3 0 rfl
  have f1 := g3 1 rfl
  have f5 := g3 5 rfl
  have f6 := g3 6 rfl
  have lr : ∀ a, M'.2.1 (8 + a) = M.2.1 (8 + a) := fun a => g2 _ (scL_row a)
  obtain ⟨hB, hA, hP, hL, hK, hI, hD, hJ⟩ := h
  refine ⟨?_, ?_, ?_, ?_, ?_, ?_, ?_, ?_⟩
  · unfold IB at hB ⊢; rw [f0, f5]; exact hB
  · unfold IA at hA ⊢; rw [e0, e1, e5, e6, e12, e13, e14, e15]; exact hA
  · unfold IP at hP ⊢; rw [e0, e1]; exact hP
  · unfold IL at hL ⊢; rw [e7, e16]; exact hL
  · unfold IK at hK ⊢; rw [e0, e1, l4]; intro a b ha hb; rw [lr a]; exact hK a b ha hb
  · unfold II at hI ⊢; rw [e0, e1, l0, l5]; exact hI
  · unfold ID at hD ⊢; rw [e0, e1, e2, e3]; exact hD
  · unfold IJ at hJ ⊢; rw [e8, e19, f1, f6]; exact hJ
theorem isA_cases (n : Nat) (hn : n ≤ 24) (v : Int32) : (∃ k, k < n ∧ v = Int32.ofNat k) ∨ (v < 0 ∨ (¬ v < 0 ∧ Int32.ofNat n ≤ v)) := by
  by_cases h0 : v < 0
  · exact Or.inr (Or.inl h0)
  · have h1 : 0 ≤ v := Int32.not_lt.mp h0
    by_cases h2 : v.toNatClampNeg < n
    · exact Or.inl ⟨v.toNatClampNeg, h2, (of_of h1).symm⟩
    · refine Or.inr (Or.inr ⟨h0, ?_⟩)
      rw [← of_of h1, of_le (by omega) (Int32.toNatClampNeg_lt v)]
      omega
section BASIC
variable {M : Me} {n k : Nat} {v : Int32}
theorem IB.s (h : IB M n) : gF M 0 = Int32.ofNat n := h.2.1
theorem IB.c (h : IB M n) : gF M 5 = Int32.ofNat n := h.2.2
theorem P_size_v (h : IB M n) : P_size M = some (Int32.ofNat n) := by unfold P_size; rw [h.s]
theorem isAnimal_ok (h : IB M n) (hk : k < n) : H_isAnimal M (Int32.ofNat k) = some 1 := by
  have hn := h.1
  unfold H_isAnimal
  rw [if_neg (of_nlt0 (by omega)), P_size_v h, Option.bind_some, if_neg (by rw [of_le (by omega) (by omega)]; omega)]
theorem isAnimal_no (h : IB M n) (hv : v < 0 ∨ (¬ v < 0 ∧ Int32.ofNat n ≤ v)) : H_isAnimal M v = some 0 := by
  unfold H_isAnimal
  rcases hv with hv | ⟨h1, h2⟩
  · rw [if_pos hv]
  · rw [if_neg h1, P_size_v h, Option.bind_some, if_pos h2]
theorem reqA_ok (h : IB M n) (hk : k < n) : H_requireAnimal M (Int32.ofNat k) = some (.ok ()) := by
  unfold H_requireAnimal
  rw [isAnimal_ok h hk]
  rfl
theorem reqA_no (h : IB M n) (hv : v < 0 ∨ (¬ v < 0 ∧ Int32.ofNat n ≤ v)) : H_requireAnimal M v = some (.error "java/util/NoSuchElementException") := by
  unfold H_requireAnimal
  rw [isAnimal_no h hv]
  rfl
theorem is_ok (h : IB M n) (hk : k < n) : M_is M (Int32.ofNat k) = some 1 := by
  have hn := h.1
  unfold M_is
  rw [if_neg (of_nlt0 (by omega)), h.c, if_neg (by rw [of_le (by omega) (by omega)]; omega)]
theorem is_no (h : IB M n) (hv : v < 0 ∨ (¬ v < 0 ∧ Int32.ofNat n ≤ v)) : M_is M v = some 0 := by
  unfold M_is
  rcases hv with hv | ⟨h1, h2⟩
  · rw [if_pos hv]
  · rw [if_neg h1, h.c, if_pos h2]
theorem refused_0 : M_refused M 0 0 0 0 = some (0, sF M 4 0) := rfl
theorem refused_1 {b c d : Int32} : M_refused M 1 b c d = some (1, sF M 4 1) := rfl
theorem refused_2 {c d : Int32} : M_refused M 0 1 c d = some (1, sF M 4 2) := rfl
theorem refused_3 {d : Int32} : M_refused M 0 0 1 d = some (1, sF M 4 3) := rfl
theorem refused_4 : M_refused M 0 0 0 1 = some (1, sF M 4 4) := rfl
theorem kinP {a b : Nat} (h : IB M n) (hK : IK M n) (ha : a < n) (hb : b < n) : P_kinOf M (Int32.ofNat a) (Int32.ofNat b) = some (Kt (M.1 0) (M.1 1) n a b) := by
  have hn := h.1
  unfold P_kinOf
  rw [if_neg (of_nm1 (by omega)), if_neg (of_nm1 (by omega)), gd_in (by omega) (by omega), gd_in (by omega) (by omega), gR_of M (by omega) (by omega), (hK a b ha hb).1]
theorem ix24 (a b : Nat) : (24 : Int32) * Int32.ofNat a + Int32.ofNat b = Int32.ofNat (24 * a + b) := by
  rw [Int32.ofNat_add, Int32.ofNat_mul]
  rfl
theorem kinM {a b : Nat} (h : IB M n) (hK : IK M n) (ha : a < n) (hb : b < n) : M_kinOf M (Int32.ofNat a) (Int32.ofNat b) = some (Kt (M.1 0) (M.1 1) n a b) := by
  have hn := h.1
  unfold M_kinOf
  rw [if_neg (of_nlt0 (by omega)), if_pos (of_0le (by omega)), ix24, gd_in (by omega) (by omega), gL_of M 4 (by omega), (hK a b ha hb).2]
end BASIC
