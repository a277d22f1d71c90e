/-! the kinship of all animals, as one function of their parents -/
def kONE : Int64 := 1125899906842624
def kq (T : Nat → Nat → Int64) (p : Int32) (b : Nat) : Int64 := if p = -1 then 0 else T p.toNatClampNeg b
/-- kinship of two that may be unknown -/
def kp (T : Nat → Nat → Int64) (p q : Int32) : Int64 := if q = -1 then 0 else kq T p q.toNatClampNeg
def Kt (S D : Nat → Int32) : Nat → Nat → Nat → Int64
  | 0 => fun _ _ => 0
  | n + 1 => fun a b =>
    if a = n then (if b = n then (kONE + kp (Kt S D n) (S n) (D n)) / 2 else (kq (Kt S D n) (S n) b + kq (Kt S D n) (D n) b) / 2)
    else if b = n then (kq (Kt S D n) (S n) a + kq (Kt S D n) (D n) a) / 2 else Kt S D n a b
theorem Kt_step {S D : Nat → Int32} {n a b : Nat} (ha : a < n) (hb : b < n) : Kt S D (n + 1) a b = Kt S D n a b := by
  have h1 : ¬ a = n := by omega
  have h2 : ¬ b = n := by omega
  simp only [Kt, if_neg h1, if_neg h2]
theorem Kt_more {S D : Nat → Int32} {n a b : Nat} (ha : a < n) (hb : b < n) : ∀ m : Nat, Kt S D (n + m) a b = Kt S D n a b := by
  intro m
  induction m with
  | zero => rfl
  | succ m ih => rw [← Nat.add_assoc, Kt_step (by omega) (by omega), ih]
theorem Kt_to {S D : Nat → Int32} {n m a b : Nat} (ha : a < n) (hb : b < n) (hm : n ≤ m) : Kt S D m a b = Kt S D n a b := by
  obtain ⟨d, rfl⟩ := Nat.exists_eq_add_of_le hm
  exact Kt_more ha hb d
theorem Kt_row {S D : Nat → Int32} {n b : Nat} (hb : b < n) : Kt S D (n + 1) n b = (kq (Kt S D n) (S n) b + kq (Kt S D n) (D n) b) / 2 := by
  have h2 : ¬ b = n := by omega
  simp only [Kt, if_neg h2, if_true]
theorem Kt_col {S D : Nat → Int32} {n b : Nat} (hb : b < n) : Kt S D (n + 1) b n = (kq (Kt S D n) (S n) b + kq (Kt S D n) (D n) b) / 2 := by
  have h2 : ¬ b = n := by omega
  simp only [Kt, if_neg h2, if_true]
theorem Kt_diag {S D : Nat → Int32} {n : Nat} : Kt S D (n + 1) n n = (kONE + kp (Kt S D n) (S n) (D n)) / 2 := by
  simp only [Kt, if_true]
theorem Kt_ext {S D S' D' : Nat → Int32} : ∀ n : Nat, (∀ i, i < n → S i = S' i ∧ D i = D' i) → Kt S D n = Kt S' D' n := by
  intro n
  induction n with
  | zero => intro _; rfl
  | succ n ih =>
    intro h
    have h1 := ih (fun i hi => h i (by omega))
    have h2 := h n (by omega)
    simp only [Kt, h1, h2.1, h2.2]
theorem Kt_symm {S D : Nat → Int32} : ∀ n a b : Nat, Kt S D n a b = Kt S D n b a := by
  intro n
  induction n with
  | zero => intro a b; rfl
  | succ n ih =>
    intro a b
    by_cases ha : a = n <;> by_cases hb : b = n <;> simp [Kt, ha, hb, ih a b]
theorem kq_symm {S D : Nat → Int32} {n : Nat} {p : Int32} {b : Nat} : kq (Kt S D n) p b = if p = -1 then 0 else Kt S D n b p.toNatClampNeg := by
  unfold kq
  by_cases h : p = -1
  · rw [if_pos h, if_pos h]
  · rw [if_neg h, if_neg h, Kt_symm]
