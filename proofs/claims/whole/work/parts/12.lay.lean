/-! one memory: int arrays, long arrays, int fields, long fields; its layout as a heap -/
abbrev Me : Type := (Nat → Nat → Int32) × (Nat → Nat → Int64) × (Nat → Int32) × (Nat → Int64)
def gI (M : Me) (a : Nat) (i : Int32) : Int32 := M.1 a i.toNatClampNeg
def gL (M : Me) (a : Nat) (i : Int32) : Int64 := M.2.1 a i.toNatClampNeg
def gR (M : Me) (r i : Int32) : Int64 := M.2.1 (8 + r.toNatClampNeg) i.toNatClampNeg
def gF (M : Me) (k : Nat) : Int32 := M.2.2.1 k
def gG (M : Me) (k : Nat) : Int64 := M.2.2.2 k
def uI (M : Me) (a : Nat) (f : Nat → Int32) : Me := (fun b => if b = a then f else M.1 b, M.2)
def uL (M : Me) (a : Nat) (f : Nat → Int64) : Me := (M.1, fun b => if b = a then f else M.2.1 b, M.2.2)
def sI (M : Me) (a : Nat) (i x : Int32) : Me := uI M a (upd (M.1 a) i.toNatClampNeg x)
def sZ (M : Me) (a : Nat) (i x : Int32) : Me := uI M a (upd (M.1 a) i.toNatClampNeg (vp_nar .boolean x))
def sL (M : Me) (a : Nat) (i : Int32) (x : Int64) : Me := uL M a (vp_updL (M.2.1 a) i.toNatClampNeg x)
def sR (M : Me) (r i : Int32) (x : Int64) : Me := uL M (8 + r.toNatClampNeg) (vp_updL (M.2.1 (8 + r.toNatClampNeg)) i.toNatClampNeg x)
def sF (M : Me) (k : Nat) (x : Int32) : Me := (M.1, M.2.1, fun j => if j = k then x else M.2.2.1 j, M.2.2.2)
def sG (M : Me) (k : Nat) (x : Int64) : Me := (M.1, M.2.1, M.2.2.1, fun j => if j = k then x else M.2.2.2 j)
def fI (M : Me) (a : Nat) (n : Nat) (x : Int32) : Me := uI M a (fun j => if j < n then x else M.1 a j)
def fL (M : Me) (a : Nat) (n : Nat) (x : Int64) : Me := uL M a (fun j => if j < n then x else M.2.1 a j)
def inb (i : Int32) (n : Nat) : Bool := decide (0 ≤ i) && decide (i.toNatClampNeg < n)
def gd {α : Type} (b : Bool) (x : Option α) : Option α := if b = true then x else none
theorem ab_gd {α : Type} {b : Bool} {x : Option α} {r : α} (h : gd b x = some r) : b = true ∧ x = some r := by
  unfold gd at h
  by_cases hb : b = true
  · rw [if_pos hb] at h; exact ⟨hb, h⟩
  · rw [if_neg hb] at h; cases h
theorem ab_pos {α : Type} {c : Prop} [Decidable c] {a b : Option α} {r : Option α} (z : c) (h : (if c then a else b) = r) : a = r := by rw [if_pos z] at h; exact h
theorem ab_neg {α : Type} {c : Prop} [Decidable c] {a b : Option α} {r : Option α} (z : ¬ c) (h : (if c then a else b) = r) : b = r := by rw [if_neg z] at h; exact h
theorem ab_bind {α β : Type} {x : Option α} {f : α → Option β} {r : β} (h : Option.bind x f = some r) : ∃ v, x = some v ∧ f v = some r := by
  cases x with
  | none => cases h
  | some v => exact ⟨v, rfl, h⟩
def ab_thrP {α β : Type} (x : Option (Except String α)) (f : α → Option β) (g : String → Option β) : Option β := match x with
  | none => none
  | some (.ok v) => f v
  | some (.error E) => g E
def ab_thrW {α β : Type} (x : Option (Except String α × Me)) (f : α → Me → Option β) (g : String → Me → Option β) : Option β := match x with
  | none => none
  | some (.ok v, M) => f v M
  | some (.error E, M) => g E M
theorem ab_thrP_cases {α β : Type} {x : Option (Except String α)} {f : α → Option β} {g : String → Option β} {r : β} (h : ab_thrP x f g = some r) : (∃ v, x = some (.ok v) ∧ f v = some r) ∨ ∃ E, x = some (.error E) ∧ g E = some r := by
  match x, h with
  | some (.ok v), h => exact Or.inl ⟨v, rfl, h⟩
  | some (.error E), h => exact Or.inr ⟨E, rfl, h⟩
theorem ab_thrW_cases {α β : Type} {x : Option (Except String α × Me)} {f : α → Me → Option β} {g : String → Me → Option β} {r : β} (h : ab_thrW x f g = some r) : (∃ v M, x = some (.ok v, M) ∧ f v M = some r) ∨ ∃ E M, x = some (.error E, M) ∧ g E M = some r := by
  match x, h with
  | some (.ok v, M), h => exact Or.inl ⟨v, M, rfl, h⟩
  | some (.error E, M), h => exact Or.inr ⟨E, M, rfl, h⟩
theorem inb_in {i : Int32} {n : Nat} (h : inb i n = true) : vp_in i n := by
  unfold inb at h
  rw [Bool.and_eq_true, decide_eq_true_iff, decide_eq_true_iff] at h
  intro hh
  rcases hh with h1 | h1
  · rw [Int32.lt_iff_toInt_lt] at h1
    have h2 := h.1
    rw [Int32.le_iff_toInt_le] at h2
    omega
  · omega
theorem inb_lt {i : Int32} {n : Nat} (h : inb i n = true) : i.toNatClampNeg < n := by
  unfold inb at h
  rw [Bool.and_eq_true, decide_eq_true_iff, decide_eq_true_iff] at h
  exact h.2
/-- the rows of an array of arrays, from place b on -/
def kinf (b : Nat) : Nat → Option Nat := fun i => if i < 24 then some (b + i) else none
def lay (M : Me) : ab_H := [
  .inr (0, [.ref 1, .ref 2, .ref 10, .ref 11, .ref 12, .ref 13, .int (gF M 1)]),
  .inr (1, [.int (gF M 0), .ref 5, .ref 6, .ref 7, .ref 8, .ref 4, .ref 29, .ref 30, .ref 9]),
  .inr (2, [.ref 14, .int (gF M 2), .int (gF M 3), .long (gG M 0), .ref 31, .ref 15, .ref 32, .ref 16]),
  .inr (3, [.int (gF M 4), .int (gF M 5), .ref 17, .ref 18, .ref 19, .ref 20, .ref 21, .ref 33, .ref 34, .ref 35, .ref 22, .ref 23, .int (gF M 6), .ref 24, .int (gF M 7), .ref 25, .ref 26, .ref 27, .ref 28]),
  .inl (.array .long, 24, .inr (.inr (.inr (.inr (kinf 37))))),
  .inl (.int, 24, .inl (M.1 0)),
  .inl (.int, 24, .inl (M.1 1)),
  .inl (.int, 24, .inl (M.1 2)),
  .inl (.int, 24, .inl (M.1 3)),
  .inl (.int, 24, .inl (M.1 4)),
  .inl (.int, 24, .inl (M.1 5)),
  .inl (.int, 24, .inl (M.1 6)),
  .inl (.boolean, 24, .inl (M.1 7)),
  .inl (.int, 24, .inl (M.1 8)),
  .inl (.int, 5, .inl (M.1 9)),
  .inl (.int, 32, .inl (M.1 10)),
  .inl (.int, 32, .inl (M.1 11)),
  .inl (.int, 24, .inl (M.1 12)),
  .inl (.int, 24, .inl (M.1 13)),
  .inl (.int, 24, .inl (M.1 14)),
  .inl (.int, 24, .inl (M.1 15)),
  .inl (.boolean, 24, .inl (M.1 16)),
  .inl (.int, 24, .inl (M.1 17)),
  .inl (.int, 24, .inl (M.1 18)),
  .inl (.int, 24, .inl (M.1 19)),
  .inl (.int, 5, .inl (M.1 20)),
  .inl (.int, 5, .inl (M.1 21)),
  .inl (.int, 5, .inl (M.1 22)),
  .inl (.int, 24, .inl (M.1 23)),
  .inl (.long, 24, .inr (.inl (M.2.1 0))),
  .inl (.long, 24, .inr (.inl (M.2.1 1))),
  .inl (.long, 32, .inr (.inl (M.2.1 2))),
  .inl (.long, 32, .inr (.inl (M.2.1 3))),
  .inl (.long, 576, .inr (.inl (M.2.1 4))),
  .inl (.long, 24, .inr (.inl (M.2.1 5))),
  .inl (.long, 24, .inr (.inl (M.2.1 6))),
  .inl (.long, 1, .inr (.inl (M.2.1 7))),
  .inl (.long, 24, .inr (.inl (M.2.1 8))),
  .inl (.long, 24, .inr (.inl (M.2.1 9))),
  .inl (.long, 24, .inr (.inl (M.2.1 10))),
  .inl (.long, 24, .inr (.inl (M.2.1 11))),
  .inl (.long, 24, .inr (.inl (M.2.1 12))),
  .inl (.long, 24, .inr (.inl (M.2.1 13))),
  .inl (.long, 24, .inr (.inl (M.2.1 14))),
  .inl (.long, 24, .inr (.inl (M.2.1 15))),
  .inl (.long, 24, .inr (.inl (M.2.1 16))),
  .inl (.long, 24, .inr (.inl (M.2.1 17))),
  .inl (.long, 24, .inr (.inl (M.2.1 18))),
  .inl (.long, 24, .inr (.inl (M.2.1 19))),
  .inl (.long, 24, .inr (.inl (M.2.1 20))),
  .inl (.long, 24, .inr (.inl (M.2.1 21))),
  .inl (.long, 24, .inr (.inl (M.2.1 22))),
  .inl (.long, 24, .inr (.inl (M.2.1 23))),
  .inl (.long, 24, .inr (.inl (M.2.1 24))),
  .inl (.long, 24, .inr (.inl (M.2.1 25))),
  .inl (.long, 24, .inr (.inl (M.2.1 26))),
  .inl (.long, 24, .inr (.inl (M.2.1 27))),
  .inl (.long, 24, .inr (.inl (M.2.1 28))),
  .inl (.long, 24, .inr (.inl (M.2.1 29))),
  .inl (.long, 24, .inr (.inl (M.2.1 30))),
  .inl (.long, 24, .inr (.inl (M.2.1 31)))]
theorem lay_I0 (M : Me) (i x : Int32) : (lay M).set 5 (.inl (.int, 24, .inl (upd (M.1 0) i.toNatClampNeg x))) = lay (sI M 0 i x) := rfl
theorem lay_I1 (M : Me) (i x : Int32) : (lay M).set 6 (.inl (.int, 24, .inl (upd (M.1 1) i.toNatClampNeg x))) = lay (sI M 1 i x) := rfl
theorem lay_I2 (M : Me) (i x : Int32) : (lay M).set 7 (.inl (.int, 24, .inl (upd (M.1 2) i.toNatClampNeg x))) = lay (sI M 2 i x) := rfl
theorem lay_I3 (M : Me) (i x : Int32) : (lay M).set 8 (.inl (.int, 24, .inl (upd (M.1 3) i.toNatClampNeg x))) = lay (sI M 3 i x) := rfl
theorem lay_I4 (M : Me) (i x : Int32) : (lay M).set 9 (.inl (.int, 24, .inl (upd (M.1 4) i.toNatClampNeg x))) = lay (sI M 4 i x) := rfl
theorem lay_I5 (M : Me) (i x : Int32) : (lay M).set 10 (.inl (.int, 24, .inl (upd (M.1 5) i.toNatClampNeg x))) = lay (sI M 5 i x) := rfl
theorem lay_I6 (M : Me) (i x : Int32) : (lay M).set 11 (.inl (.int, 24, .inl (upd (M.1 6) i.toNatClampNeg x))) = lay (sI M 6 i x) := rfl
theorem lay_Z7 (M : Me) (i x : Int32) : (lay M).set 12 (.inl (.boolean, 24, .inl (upd (M.1 7) i.toNatClampNeg (vp_nar .boolean x)))) = lay (sZ M 7 i x) := rfl
theorem lay_I8 (M : Me) (i x : Int32) : (lay M).set 13 (.inl (.int, 24, .inl (upd (M.1 8) i.toNatClampNeg x))) = lay (sI M 8 i x) := rfl
theorem lay_I9 (M : Me) (i x : Int32) : (lay M).set 14 (.inl (.int, 5, .inl (upd (M.1 9) i.toNatClampNeg x))) = lay (sI M 9 i x) := rfl
theorem lay_I10 (M : Me) (i x : Int32) : (lay M).set 15 (.inl (.int, 32, .inl (upd (M.1 10) i.toNatClampNeg x))) = lay (sI M 10 i x) := rfl
theorem lay_I11 (M : Me) (i x : Int32) : (lay M).set 16 (.inl (.int, 32, .inl (upd (M.1 11) i.toNatClampNeg x))) = lay (sI M 11 i x) := rfl
theorem lay_I12 (M : Me) (i x : Int32) : (lay M).set 17 (.inl (.int, 24, .inl (upd (M.1 12) i.toNatClampNeg x))) = lay (sI M 12 i x) := rfl
theorem lay_I13 (M : Me) (i x : Int32) : (lay M).set 18 (.inl (.int, 24, .inl (upd (M.1 13) i.toNatClampNeg x))) = lay (sI M 13 i x) := rfl
theorem lay_I14 (M : Me) (i x : Int32) : (lay M).set 19 (.inl (.int, 24, .inl (upd (M.1 14) i.toNatClampNeg x))) = lay (sI M 14 i x) := rfl
theorem lay_I15 (M : Me) (i x : Int32) : (lay M).set 20 (.inl (.int, 24, .inl (upd (M.1 15) i.toNatClampNeg x))) = lay (sI M 15 i x) := rfl
theorem lay_Z16 (M : Me) (i x : Int32) : (lay M).set 21 (.inl (.boolean, 24, .inl (upd (M.1 16) i.toNatClampNeg (vp_nar .boolean x)))) = lay (sZ M 16 i x) := rfl
theorem lay_I17 (M : Me) (i x : Int32) : (lay M).set 22 (.inl (.int, 24, .inl (upd (M.1 17) i.toNatClampNeg x))) = lay (sI M 17 i x) := rfl
theorem lay_I18 (M : Me) (i x : Int32) : (lay M).set 23 (.inl (.int, 24, .inl (upd (M.1 18) i.toNatClampNeg x))) = lay (sI M 18 i x) := rfl
theorem lay_I19 (M : Me) (i x : Int32) : (lay M).set 24 (.inl (.int, 24, .inl (upd (M.1 19) i.toNatClampNeg x))) = lay (sI M 19 i x) := rfl
theorem lay_I20 (M : Me) (i x : Int32) : (lay M).set 25 (.inl (.int, 5, .inl (upd (M.1 20) i.toNatClampNeg x))) = lay (sI M 20 i x) := rfl
theorem lay_I21 (M : Me) (i x : Int32) : (lay M).set 26 (.inl (.int, 5, .inl (upd (M.1 21) i.toNatClampNeg x))) = lay (sI M 21 i x) := rfl
theorem lay_I22 (M : Me) (i x : Int32) : (lay M).set 27 (.inl (.int, 5, .inl (upd (M.1 22) i.toNatClampNeg x))) = lay (sI M 22 i x) := rfl
theorem lay_I23 (M : Me) (i x : Int32) : (lay M).set 28 (.inl (.int, 24, .inl (upd (M.1 23) i.toNatClampNeg x))) = lay (sI M 23 i x) := rfl
theorem lay_L0 (M : Me) (i : Int32) (x : Int64) : (lay M).set 29 (.inl (.long, 24, .inr (.inl (vp_updL (M.2.1 0) i.toNatClampNeg x)))) = lay (sL M 0 i x) := rfl
theorem lay_L1 (M : Me) (i : Int32) (x : Int64) : (lay M).set 30 (.inl (.long, 24, .inr (.inl (vp_updL (M.2.1 1) i.toNatClampNeg x)))) = lay (sL M 1 i x) := rfl
theorem lay_L2 (M : Me) (i : Int32) (x : Int64) : (lay M).set 31 (.inl (.long, 32, .inr (.inl (vp_updL (M.2.1 2) i.toNatClampNeg x)))) = lay (sL M 2 i x) := rfl
theorem lay_L3 (M : Me) (i : Int32) (x : Int64) : (lay M).set 32 (.inl (.long, 32, .inr (.inl (vp_updL (M.2.1 3) i.toNatClampNeg x)))) = lay (sL M 3 i x) := rfl
theorem lay_L4 (M : Me) (i : Int32) (x : Int64) : (lay M).set 33 (.inl (.long, 576, .inr (.inl (vp_updL (M.2.1 4) i.toNatClampNeg x)))) = lay (sL M 4 i x) := rfl
theorem lay_L5 (M : Me) (i : Int32) (x : Int64) : (lay M).set 34 (.inl (.long, 24, .inr (.inl (vp_updL (M.2.1 5) i.toNatClampNeg x)))) = lay (sL M 5 i x) := rfl
theorem lay_L6 (M : Me) (i : Int32) (x : Int64) : (lay M).set 35 (.inl (.long, 24, .inr (.inl (vp_updL (M.2.1 6) i.toNatClampNeg x)))) = lay (sL M 6 i x) := rfl
theorem lay_L7 (M : Me) (i : Int32) (x : Int64) : (lay M).set 36 (.inl (.long, 1, .inr (.inl (vp_updL (M.2.1 7) i.toNatClampNeg x)))) = lay (sL M 7 i x) := rfl
theorem lay_F1 (M : Me) (x : Int32) : (lay M).set 0 (.inr (0, ([.ref 1, .ref 2, .ref 10, .ref 11, .ref 12, .ref 13, .int (gF M 1)] : List Value).set 6 (.int x))) = lay (sF M 1 x) := rfl
theorem lay_F0 (M : Me) (x : Int32) : (lay M).set 1 (.inr (1, ([.int (gF M 0), .ref 5, .ref 6, .ref 7, .ref 8, .ref 4, .ref 29, .ref 30, .ref 9] : List Value).set 0 (.int x))) = lay (sF M 0 x) := rfl
theorem lay_F2 (M : Me) (x : Int32) : (lay M).set 2 (.inr (2, ([.ref 14, .int (gF M 2), .int (gF M 3), .long (gG M 0), .ref 31, .ref 15, .ref 32, .ref 16] : List Value).set 1 (.int x))) = lay (sF M 2 x) := rfl
theorem lay_F3 (M : Me) (x : Int32) : (lay M).set 2 (.inr (2, ([.ref 14, .int (gF M 2), .int (gF M 3), .long (gG M 0), .ref 31, .ref 15, .ref 32, .ref 16] : List Value).set 2 (.int x))) = lay (sF M 3 x) := rfl
theorem lay_G0 (M : Me) (x : Int64) : (lay M).set 2 (.inr (2, ([.ref 14, .int (gF M 2), .int (gF M 3), .long (gG M 0), .ref 31, .ref 15, .ref 32, .ref 16] : List Value).set 3 (.long x))) = lay (sG M 0 x) := rfl
theorem lay_F4 (M : Me) (x : Int32) : (lay M).set 3 (.inr (3, ([.int (gF M 4), .int (gF M 5), .ref 17, .ref 18, .ref 19, .ref 20, .ref 21, .ref 33, .ref 34, .ref 35, .ref 22, .ref 23, .int (gF M 6), .ref 24, .int (gF M 7), .ref 25, .ref 26, .ref 27, .ref 28] : List Value).set 0 (.int x))) = lay (sF M 4 x) := rfl
theorem lay_F5 (M : Me) (x : Int32) : (lay M).set 3 (.inr (3, ([.int (gF M 4), .int (gF M 5), .ref 17, .ref 18, .ref 19, .ref 20, .ref 21, .ref 33, .ref 34, .ref 35, .ref 22, .ref 23, .int (gF M 6), .ref 24, .int (gF M 7), .ref 25, .ref 26, .ref 27, .ref 28] : List Value).set 1 (.int x))) = lay (sF M 5 x) := rfl
theorem lay_F6 (M : Me) (x : Int32) : (lay M).set 3 (.inr (3, ([.int (gF M 4), .int (gF M 5), .ref 17, .ref 18, .ref 19, .ref 20, .ref 21, .ref 33, .ref 34, .ref 35, .ref 22, .ref 23, .int (gF M 6), .ref 24, .int (gF M 7), .ref 25, .ref 26, .ref 27, .ref 28] : List Value).set 12 (.int x))) = lay (sF M 6 x) := rfl
theorem lay_F7 (M : Me) (x : Int32) : (lay M).set 3 (.inr (3, ([.int (gF M 4), .int (gF M 5), .ref 17, .ref 18, .ref 19, .ref 20, .ref 21, .ref 33, .ref 34, .ref 35, .ref 22, .ref 23, .int (gF M 6), .ref 24, .int (gF M 7), .ref 25, .ref 26, .ref 27, .ref 28] : List Value).set 14 (.int x))) = lay (sF M 7 x) := rfl
theorem lay_row (M : Me) : ∀ r : Nat, r < 24 → (lay M)[37 + r]? = some (.inl (.long, 24, .inr (.inl (M.2.1 (8 + r)))))
  | 0, _ => rfl
  | 1, _ => rfl
  | 2, _ => rfl
  | 3, _ => rfl
  | 4, _ => rfl
  | 5, _ => rfl
  | 6, _ => rfl
  | 7, _ => rfl
  | 8, _ => rfl
  | 9, _ => rfl
  | 10, _ => rfl
  | 11, _ => rfl
  | 12, _ => rfl
  | 13, _ => rfl
  | 14, _ => rfl
  | 15, _ => rfl
  | 16, _ => rfl
  | 17, _ => rfl
  | 18, _ => rfl
  | 19, _ => rfl
  | 20, _ => rfl
  | 21, _ => rfl
  | 22, _ => rfl
  | 23, _ => rfl
  | n + 24, h => absurd h (by omega)
theorem lay_rowset (M : Me) (f : Nat → Int64) : ∀ r : Nat, r < 24 → (lay M).set (37 + r) (.inl (.long, 24, .inr (.inl f))) = lay (uL M (8 + r) f)
  | 0, _ => rfl
  | 1, _ => rfl
  | 2, _ => rfl
  | 3, _ => rfl
  | 4, _ => rfl
  | 5, _ => rfl
  | 6, _ => rfl
  | 7, _ => rfl
  | 8, _ => rfl
  | 9, _ => rfl
  | 10, _ => rfl
  | 11, _ => rfl
  | 12, _ => rfl
  | 13, _ => rfl
  | 14, _ => rfl
  | 15, _ => rfl
  | 16, _ => rfl
  | 17, _ => rfl
  | 18, _ => rfl
  | 19, _ => rfl
  | 20, _ => rfl
  | 21, _ => rfl
  | 22, _ => rfl
  | 23, _ => rfl
  | n + 24, h => absurd h (by omega)
section LAYR
variable {κ : ab_K} {ad : Nat → Nat} {pc : Nat} {lo : List (Nat × Value)} {st : List Value} {k n : Nat} {M : Me}
theorem ab_ild {i : Int32} (a N9 pc' : Nat) (hd : decode κ.2.1.2.1 pc = .ok (.iaload, 1)) (he : (lay M)[5 + a]? = some (.inl (.int, N9, .inl (M.1 a)))) (hi : inb i N9 = true) (kk : ab_V κ ad pc' lo (.int (gI M a i) :: st) (lay M) k n) (hp : pc + 1 = pc' := by rfl) : ab_V κ ad pc lo (.int i :: .ref (5 + a) :: st) (lay M) k n :=
  ab_iald pc' hd he (inb_in hi) kk hp
theorem ab_zld {i : Int32} (a N9 pc' : Nat) (hd : decode κ.2.1.2.1 pc = .ok (.baload, 1)) (he : (lay M)[5 + a]? = some (.inl (.boolean, N9, .inl (M.1 a)))) (hi : inb i N9 = true) (kk : ab_V κ ad pc' lo (.int (gI M a i) :: st) (lay M) k n) (hp : pc + 1 = pc' := by rfl) : ab_V κ ad pc lo (.int i :: .ref (5 + a) :: st) (lay M) k n :=
  ab_zald pc' hd he (inb_in hi) kk hp
theorem ab_lld {i : Int32} (a N9 pc' : Nat) (hd : decode κ.2.1.2.1 pc = .ok (.laload, 1)) (he : (lay M)[29 + a]? = some (.inl (.long, N9, .inr (.inl (M.2.1 a))))) (hi : inb i N9 = true) (kk : ab_V κ ad pc' lo (.long (gL M a i) :: st) (lay M) k n) (hp : pc + 1 = pc' := by rfl) : ab_V κ ad pc lo (.int i :: .ref (29 + a) :: st) (lay M) k n :=
  ab_lald pc' hd he (inb_in hi) kk hp
theorem ab_ist {i : Int32} {x : Int32} (a N9 pc' : Nat) (hd : decode κ.2.1.2.1 pc = .ok (.iastore, 1)) (he : (lay M)[5 + a]? = some (.inl (.int, N9, .inl (M.1 a)))) (hi : inb i N9 = true) (hs : ∀ (M : Me) (i : Int32) (x : Int32), (lay M).set (5 + a) (.inl (.int, N9, .inl (upd (M.1 a) i.toNatClampNeg x))) = lay (sI M a i x)) (kk : ab_V κ ad pc' lo st (lay (sI M a i x)) k n) (hp : pc + 1 = pc' := by rfl) : ab_V κ ad pc lo (.int x :: .int i :: .ref (5 + a) :: st) (lay M) k n :=
  ab_iast pc' hd he (inb_in hi) (hs M i x) kk hp
theorem ab_zst {i : Int32} {x : Int32} (a N9 pc' : Nat) (hd : decode κ.2.1.2.1 pc = .ok (.bastore, 1)) (he : (lay M)[5 + a]? = some (.inl (.boolean, N9, .inl (M.1 a)))) (hi : inb i N9 = true) (hs : ∀ (M : Me) (i : Int32) (x : Int32), (lay M).set (5 + a) (.inl (.boolean, N9, .inl (upd (M.1 a) i.toNatClampNeg (vp_nar .boolean x)))) = lay (sZ M a i x)) (kk : ab_V κ ad pc' lo st (lay (sZ M a i x)) k n) (hp : pc + 1 = pc' := by rfl) : ab_V κ ad pc lo (.int x :: .int i :: .ref (5 + a) :: st) (lay M) k n :=
  ab_zast pc' hd he (inb_in hi) (hs M i x) kk hp
theorem ab_lst {i : Int32} {x : Int64} (a N9 pc' : Nat) (hd : decode κ.2.1.2.1 pc = .ok (.lastore, 1)) (he : (lay M)[29 + a]? = some (.inl (.long, N9, .inr (.inl (M.2.1 a))))) (hi : inb i N9 = true) (hs : ∀ (M : Me) (i : Int32) (x : Int64), (lay M).set (29 + a) (.inl (.long, N9, .inr (.inl (vp_updL (M.2.1 a) i.toNatClampNeg x)))) = lay (sL M a i x)) (kk : ab_V κ ad pc' lo st (lay (sL M a i x)) k n) (hp : pc + 1 = pc' := by rfl) : ab_V κ ad pc lo (.long x :: .int i :: .ref (29 + a) :: st) (lay M) k n :=
  ab_last pc' hd he (inb_in hi) (hs M i x) kk hp
theorem ab_row {i : Int32} (pc' : Nat) (hd : decode κ.2.1.2.1 pc = .ok (.aaload, 1)) (hi : inb i 24 = true) (kk : ab_V κ ad pc' lo (.ref (37 + i.toNatClampNeg) :: st) (lay M) k n) (hp : pc + 1 = pc' := by rfl) : ab_V κ ad pc lo (.int i :: .ref 4 :: st) (lay M) k n :=
  ab_aald (a := 4) (f := kinf 37) pc' hd rfl (inb_in hi) (if_pos (inb_lt hi)) kk rfl hp
theorem ab_rld {r i : Int32} (pc' : Nat) (hd : decode κ.2.1.2.1 pc = .ok (.laload, 1)) (hr : inb r 24 = true) (hi : inb i 24 = true) (kk : ab_V κ ad pc' lo (.long (gR M r i) :: st) (lay M) k n) (hp : pc + 1 = pc' := by rfl) : ab_V κ ad pc lo (.int i :: .ref (37 + r.toNatClampNeg) :: st) (lay M) k n :=
  ab_lald pc' hd (lay_row M _ (inb_lt hr)) (inb_in hi) kk hp
theorem ab_rst {r i : Int32} {x : Int64} (pc' : Nat) (hd : decode κ.2.1.2.1 pc = .ok (.lastore, 1)) (hr : inb r 24 = true) (hi : inb i 24 = true) (kk : ab_V κ ad pc' lo st (lay (sR M r i x)) k n) (hp : pc + 1 = pc' := by rfl) : ab_V κ ad pc lo (.long x :: .int i :: .ref (37 + r.toNatClampNeg) :: st) (lay M) k n :=
  ab_last pc' hd (lay_row M _ (inb_lt hr)) (inb_in hi) (lay_rowset M _ _ (inb_lt hr)) kk hp
end LAYR
theorem ab_sw6 {x : Int32} (h0 : ¬ x = (0 : Int32)) (h1 : ¬ x = (1 : Int32)) (h2 : ¬ x = (2 : Int32)) (h3 : ¬ x = (3 : Int32)) (h4 : ¬ x = (4 : Int32)) (h5 : ¬ x = (5 : Int32)) : x.toInt < 0 ∨ 5 < x.toInt := by
  simp only [← Int32.toInt_inj] at h0 h1 h2 h3 h4 h5
  have e0 : Int32.toInt (0 : Int32) = 0 := by decide
  have e1 : Int32.toInt (1 : Int32) = 1 := by decide
  have e2 : Int32.toInt (2 : Int32) = 2 := by decide
  have e3 : Int32.toInt (3 : Int32) = 3 := by decide
  have e4 : Int32.toInt (4 : Int32) = 4 := by decide
  have e5 : Int32.toInt (5 : Int32) = 5 := by decide
  omega
theorem ab_sw5 {x : Int32} (h0 : ¬ x = (0 : Int32)) (h1 : ¬ x = (1 : Int32)) (h2 : ¬ x = (2 : Int32)) (h3 : ¬ x = (3 : Int32)) (h4 : ¬ x = (4 : Int32)) : x.toInt < 0 ∨ 4 < x.toInt := by
  simp only [← Int32.toInt_inj] at h0 h1 h2 h3 h4
  have e0 : Int32.toInt (0 : Int32) = 0 := by decide
  have e1 : Int32.toInt (1 : Int32) = 1 := by decide
  have e2 : Int32.toInt (2 : Int32) = 2 := by decide
  have e3 : Int32.toInt (3 : Int32) = 3 := by decide
  have e4 : Int32.toInt (4 : Int32) = 4 := by decide
  omega
theorem ab_sw21 {x : Int32} (h0 : ¬ x = (0 : Int32)) (h1 : ¬ x = (1 : Int32)) (h2 : ¬ x = (2 : Int32)) (h3 : ¬ x = (3 : Int32)) (h4 : ¬ x = (4 : Int32)) (h5 : ¬ x = (5 : Int32)) (h6 : ¬ x = (6 : Int32)) (h7 : ¬ x = (7 : Int32)) (h8 : ¬ x = (8 : Int32)) (h9 : ¬ x = (9 : Int32)) (h10 : ¬ x = (10 : Int32)) (h11 : ¬ x = (11 : Int32)) (h12 : ¬ x = (12 : Int32)) (h13 : ¬ x = (13 : Int32)) (h14 : ¬ x = (14 : Int32)) (h15 : ¬ x = (15 : Int32)) (h16 : ¬ x = (16 : Int32)) (h17 : ¬ x = (17 : Int32)) (h18 : ¬ x = (18 : Int32)) (h19 : ¬ x = (19 : Int32)) (h20 : ¬ x = (20 : Int32)) : x.toInt < 0 ∨ 20 < x.toInt := by
  simp only [← Int32.toInt_inj] at h0 h1 h2 h3 h4 h5 h6 h7 h8 h9 h10 h11 h12 h13 h14 h15 h16 h17 h18 h19 h20
  have e0 : Int32.toInt (0 : Int32) = 0 := by decide
  have e1 : Int32.toInt (1 : Int32) = 1 := by decide
  have e2 : Int32.toInt (2 : Int32) = 2 := by decide
  have e3 : Int32.toInt (3 : Int32) = 3 := by decide
  have e4 : Int32.toInt (4 : Int32) = 4 := by decide
  have e5 : Int32.toInt (5 : Int32) = 5 := by decide
  have e6 : Int32.toInt (6 : Int32) = 6 := by decide
  have e7 : Int32.toInt (7 : Int32) = 7 := by decide
  have e8 : Int32.toInt (8 : Int32) = 8 := by decide
  have e9 : Int32.toInt (9 : Int32) = 9 := by decide
  have e10 : Int32.toInt (10 : Int32) = 10 := by decide
  have e11 : Int32.toInt (11 : Int32) = 11 := by decide
  have e12 : Int32.toInt (12 : Int32) = 12 := by decide
  have e13 : Int32.toInt (13 : Int32) = 13 := by decide
  have e14 : Int32.toInt (14 : Int32) = 14 := by decide
  have e15 : Int32.toInt (15 : Int32) = 15 := by decide
  have e16 : Int32.toInt (16 : Int32) = 16 := by decide
  have e17 : Int32.toInt (17 : Int32) = 17 := by decide
  have e18 : Int32.toInt (18 : Int32) = 18 := by decide
  have e19 : Int32.toInt (19 : Int32) = 19 := by decide
  have e20 : Int32.toInt (20 : Int32) = 20 := by decide
  omega
