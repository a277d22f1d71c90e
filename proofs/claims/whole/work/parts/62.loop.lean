/-! the law's loop: each case goes on, with what both keep kept -/
section LOOP
theorem lawL {lx : Option (Int32 × Me)} {mx : Me → Option (Int64 × Me)} {n' : Nat} (h : SimL lx mx n') (rec : Int32 → Me → Option (Int32 × Me)) (v : Int32) : ∃ (n2 : Nat) (M2 : Me), Inv M2 n2 ∧ Option.bind lx (fun r3 => Option.bind (mx r3.2) (fun r6 => Option.bind (M_thrown r6.2) (fun r8 => if r8 = r3.1 then (if r3.1 = (0 : Int32) then (gd (inb (0 : Int32) 1) (if (gL r6.2 7 (0 : Int32)) = r6.1 then (rec v r6.2) else (some ((0 : Int32), r6.2)))) else (rec v r6.2)) else (some ((0 : Int32), r6.2))))) = rec v M2 := by
  obtain ⟨t, M1, b, M2, h1, h2, h3, h4, h5⟩ := h
  refine ⟨n', M2, h5, ?_⟩
  rw [h1, Option.bind_some]
  show Option.bind (mx M1) _ = _
  rw [h2, Option.bind_some]
  unfold M_thrown
  rw [Option.bind_some]
  show (if gF M2 4 = t then (if t = (0 : Int32) then (gd (inb (0 : Int32) 1) (if (gL M2 7 (0 : Int32)) = b then (rec v M2) else (some ((0 : Int32), M2)))) else (rec v M2)) else (some ((0 : Int32), M2))) = _
  rw [if_pos h3]
  by_cases ht : t = 0
  · rw [if_pos ht, gd_01, if_pos (h4 ht)]
  · rw [if_neg ht]
theorem lawI {lx : Option (Int32 × Me)} {mx : Me → Option (Int32 × Me)} {n' : Nat} (h : SimI lx mx n') (rec : Int32 → Me → Option (Int32 × Me)) (v : Int32) : ∃ (n2 : Nat) (M2 : Me), Inv M2 n2 ∧ Option.bind lx (fun r3 => Option.bind (mx r3.2) (fun r6 => Option.bind (M_thrown r6.2) (fun r8 => if r8 = r3.1 then (if r3.1 = (0 : Int32) then (gd (inb (0 : Int32) 1) (if (gL r6.2 7 (0 : Int32)) = r6.1.toInt64 then (rec v r6.2) else (some ((0 : Int32), r6.2)))) else (rec v r6.2)) else (some ((0 : Int32), r6.2))))) = rec v M2 := by
  obtain ⟨t, M1, b, M2, h1, h2, h3, h4, h5⟩ := h
  refine ⟨n', M2, h5, ?_⟩
  rw [h1, Option.bind_some]
  show Option.bind (mx M1) _ = _
  rw [h2, Option.bind_some]
  unfold M_thrown
  rw [Option.bind_some]
  show (if gF M2 4 = t then (if t = (0 : Int32) then (gd (inb (0 : Int32) 1) (if (gL M2 7 (0 : Int32)) = b.toInt64 then (rec v M2) else (some ((0 : Int32), M2)))) else (rec v M2)) else (some ((0 : Int32), M2))) = _
  rw [if_pos h3]
  by_cases ht : t = 0
  · rw [if_pos ht, gd_01, if_pos (h4 ht)]
  · rw [if_neg ht]
theorem lawP {hx : Option Int64} {mx : Option (Int64 × Me)} {n' : Nat} (h : SimP hx mx n') (rec : Int32 → Me → Option (Int32 × Me)) (v : Int32) : ∃ (n2 : Nat) (M2 : Me), Inv M2 n2 ∧ Option.bind hx (fun r2 => Option.bind mx (fun r4 => if r2 = r4.1 then (rec v r4.2) else (some ((0 : Int32), r4.2)))) = rec v M2 := by
  obtain ⟨r, M2, h1, h2, h3⟩ := h
  refine ⟨n', M2, h3, ?_⟩
  rw [h1, h2, Option.bind_some, Option.bind_some]
  exact if_pos rfl
theorem lawQ {hx : Option Int32} {mx : Option (Int32 × Me)} {n' : Nat} (h : SimQ hx mx n') (rec : Int32 → Me → Option (Int32 × Me)) (v : Int32) : ∃ (n2 : Nat) (M2 : Me), Inv M2 n2 ∧ Option.bind hx (fun r2 => Option.bind mx (fun r4 => if r2 = r4.1 then (rec v r4.2) else (some ((0 : Int32), r4.2)))) = rec v M2 := by
  obtain ⟨r, M2, h1, h2, h3⟩ := h
  refine ⟨n', M2, h3, ?_⟩
  rw [h1, h2, Option.bind_some, Option.bind_some]
  exact if_pos rfl
theorem gd_j {j c L : Nat} (hL : L ≤ 2560) (hj : j + c < L) {α : Type} (x : Option α) : gd (inb (Int32.ofNat j + Int32.ofNat c) L) x = x := by
  rw [← Int32.ofNat_add, gd_in (by omega) (by omega)]
variable {M : Me} {n L j : Nat} {xs : Nat → Int32} {rec : Int32 → Me → Option (Int32 × Me)}
def SPL : Prop := ∀ (M : Me) (n : Nat), Inv M n → ∀ (a b : Int32) (c : Int64), SimL (L_plan M a b c) (fun M1 => M_plan M1 a b c) n
theorem go_c136 (hL : L ≤ 2560) (hj : j + 5 ≤ L) (h : Inv M n) : ∃ (n2 : Nat) (M2 : Me), Inv M2 n2 ∧ L_law_c136 xs L rec (Int32.ofNat j) M = rec (Int32.ofNat j + 5) M2 := by
  have g1 : ∀ {α : Type} (x : Option α), gd (inb (Int32.ofNat j + (1 : Int32)) L) x = x := fun x => gd_j (c := 1) hL (by omega) x
  have g2 : ∀ {α : Type} (x : Option α), gd (inb (Int32.ofNat j + (2 : Int32)) L) x = x := fun x => gd_j (c := 2) hL (by omega) x
  have g3 : ∀ {α : Type} (x : Option α), gd (inb (Int32.ofNat j + (3 : Int32)) L) x = x := fun x => gd_j (c := 3) hL (by omega) x
  have g4 : ∀ {α : Type} (x : Option α), gd (inb (Int32.ofNat j + (4 : Int32)) L) x = x := fun x => gd_j (c := 4) hL (by omega) x
  unfold L_law_c136
  simp only [g1, g2, g3, g4]
  obtain ⟨n', hs⟩ := sim_enter h (gS xs (Int32.ofNat j + 1)) (gS xs (Int32.ofNat j + 2)) (gS xs (Int32.ofNat j + 3)) (gS xs (Int32.ofNat j + 4))
  exact lawI hs rec _
theorem go_c228 (hL : L ≤ 2560) (hj : j + 5 ≤ L) (h : Inv M n) : ∃ (n2 : Nat) (M2 : Me), Inv M2 n2 ∧ L_law_c228 xs L rec (Int32.ofNat j) M = rec (Int32.ofNat j + 5) M2 := by
  have g1 : ∀ {α : Type} (x : Option α), gd (inb (Int32.ofNat j + (1 : Int32)) L) x = x := fun x => gd_j (c := 1) hL (by omega) x
  have g2 : ∀ {α : Type} (x : Option α), gd (inb (Int32.ofNat j + (2 : Int32)) L) x = x := fun x => gd_j (c := 2) hL (by omega) x
  have g3 : ∀ {α : Type} (x : Option α), gd (inb (Int32.ofNat j + (3 : Int32)) L) x = x := fun x => gd_j (c := 3) hL (by omega) x
  unfold L_law_c228
  simp only [g1, g2, g3]
  exact lawI (sim_correct h _ _ _) rec _
theorem go_c308 (hL : L ≤ 2560) (hj : j + 5 ≤ L) (h : Inv M n) : ∃ (n2 : Nat) (M2 : Me), Inv M2 n2 ∧ L_law_c308 xs L rec (Int32.ofNat j) M = rec (Int32.ofNat j + 5) M2 := by
  have g1 : ∀ {α : Type} (x : Option α), gd (inb (Int32.ofNat j + (1 : Int32)) L) x = x := fun x => gd_j (c := 1) hL (by omega) x
  unfold L_law_c308
  simp only [g1]
  exact lawI (sim_cull h _) rec _
theorem go_c364 (hL : L ≤ 2560) (hj : j + 5 ≤ L) (h : Inv M n) : ∃ (n2 : Nat) (M2 : Me), Inv M2 n2 ∧ L_law_c364 xs L rec (Int32.ofNat j) M = rec (Int32.ofNat j + 5) M2 := by
  have g1 : ∀ {α : Type} (x : Option α), gd (inb (Int32.ofNat j + (1 : Int32)) L) x = x := fun x => gd_j (c := 1) hL (by omega) x
  have g2 : ∀ {α : Type} (x : Option α), gd (inb (Int32.ofNat j + (2 : Int32)) L) x = x := fun x => gd_j (c := 2) hL (by omega) x
  unfold L_law_c364
  simp only [g1, g2]
  exact lawI (sim_of h _ _) rec _
theorem go_c432 (hL : L ≤ 2560) (hj : j + 5 ≤ L) (h : Inv M n) : ∃ (n2 : Nat) (M2 : Me), Inv M2 n2 ∧ L_law_c432 xs L rec (Int32.ofNat j) M = rec (Int32.ofNat j + 5) M2 := by
  unfold L_law_c432
  exact lawQ (sim_animals h) rec _
theorem go_c445 (hL : L ≤ 2560) (hj : j + 5 ≤ L) (h : Inv M n) : ∃ (n2 : Nat) (M2 : Me), Inv M2 n2 ∧ L_law_c445 xs L rec (Int32.ofNat j) M = rec (Int32.ofNat j + 5) M2 := by
  have g1 : ∀ {α : Type} (x : Option α), gd (inb (Int32.ofNat j + (1 : Int32)) L) x = x := fun x => gd_j (c := 1) hL (by omega) x
  have g2 : ∀ {α : Type} (x : Option α), gd (inb (Int32.ofNat j + (2 : Int32)) L) x = x := fun x => gd_j (c := 2) hL (by omega) x
  unfold L_law_c445
  simp only [g1, g2]
  exact lawL (sim_kinship h _ _) rec _
theorem go_c512 (hL : L ≤ 2560) (hj : j + 5 ≤ L) (h : Inv M n) : ∃ (n2 : Nat) (M2 : Me), Inv M2 n2 ∧ L_law_c512 xs L rec (Int32.ofNat j) M = rec (Int32.ofNat j + 5) M2 := by
  have g1 : ∀ {α : Type} (x : Option α), gd (inb (Int32.ofNat j + (1 : Int32)) L) x = x := fun x => gd_j (c := 1) hL (by omega) x
  unfold L_law_c512
  simp only [g1]
  exact lawL (sim_inbreeding h _) rec _
theorem go_c567 (hL : L ≤ 2560) (hj : j + 5 ≤ L) (h : Inv M n) : ∃ (n2 : Nat) (M2 : Me), Inv M2 n2 ∧ L_law_c567 xs L rec (Int32.ofNat j) M = rec (Int32.ofNat j + 5) M2 := by
  have g1 : ∀ {α : Type} (x : Option α), gd (inb (Int32.ofNat j + (1 : Int32)) L) x = x := fun x => gd_j (c := 1) hL (by omega) x
  have g2 : ∀ {α : Type} (x : Option α), gd (inb (Int32.ofNat j + (2 : Int32)) L) x = x := fun x => gd_j (c := 2) hL (by omega) x
  unfold L_law_c567
  simp only [g1, g2]
  exact lawL (sim_calf h _ _) rec _
theorem go_c634 (hL : L ≤ 2560) (hj : j + 5 ≤ L) (h : Inv M n) : ∃ (n2 : Nat) (M2 : Me), Inv M2 n2 ∧ L_law_c634 xs L rec (Int32.ofNat j) M = rec (Int32.ofNat j + 5) M2 := by
  have g1 : ∀ {α : Type} (x : Option α), gd (inb (Int32.ofNat j + (1 : Int32)) L) x = x := fun x => gd_j (c := 1) hL (by omega) x
  have g2 : ∀ {α : Type} (x : Option α), gd (inb (Int32.ofNat j + (2 : Int32)) L) x = x := fun x => gd_j (c := 2) hL (by omega) x
  unfold L_law_c634
  simp only [g1, g2]
  exact lawL (sim_share h _ _) rec _
theorem go_c701 (hL : L ≤ 2560) (hj : j + 5 ≤ L) (h : Inv M n) : ∃ (n2 : Nat) (M2 : Me), Inv M2 n2 ∧ L_law_c701 xs L rec (Int32.ofNat j) M = rec (Int32.ofNat j + 5) M2 := by
  have g1 : ∀ {α : Type} (x : Option α), gd (inb (Int32.ofNat j + (1 : Int32)) L) x = x := fun x => gd_j (c := 1) hL (by omega) x
  unfold L_law_c701
  simp only [g1]
  exact lawL (sim_unknown h _) rec _
theorem go_c756 (hL : L ≤ 2560) (hj : j + 5 ≤ L) (h : Inv M n) : ∃ (n2 : Nat) (M2 : Me), Inv M2 n2 ∧ L_law_c756 xs L rec (Int32.ofNat j) M = rec (Int32.ofNat j + 5) M2 := by
  have g1 : ∀ {α : Type} (x : Option α), gd (inb (Int32.ofNat j + (1 : Int32)) L) x = x := fun x => gd_j (c := 1) hL (by omega) x
  unfold L_law_c756
  simp only [g1]
  exact lawL (sim_inHerd h _) rec _
theorem go_c811 (hL : L ≤ 2560) (hj : j + 5 ≤ L) (h : Inv M n) : ∃ (n2 : Nat) (M2 : Me), Inv M2 n2 ∧ L_law_c811 xs L rec (Int32.ofNat j) M = rec (Int32.ofNat j + 5) M2 := by
  unfold L_law_c811
  exact lawP (sim_herd h) rec _
theorem go_c825 (hL : L ≤ 2560) (hj : j + 5 ≤ L) (h : Inv M n) : ∃ (n2 : Nat) (M2 : Me), Inv M2 n2 ∧ L_law_c825 xs L rec (Int32.ofNat j) M = rec (Int32.ofNat j + 5) M2 := by
  have g1 : ∀ {α : Type} (x : Option α), gd (inb (Int32.ofNat j + (1 : Int32)) L) x = x := fun x => gd_j (c := 1) hL (by omega) x
  unfold L_law_c825
  simp only [g1]
  exact lawI (sim_ancestors h _) rec _
theorem go_c881 (hL : L ≤ 2560) (hj : j + 5 ≤ L) (h : Inv M n) : ∃ (n2 : Nat) (M2 : Me), Inv M2 n2 ∧ L_law_c881 xs L rec (Int32.ofNat j) M = rec (Int32.ofNat j + 5) M2 := by
  have g1 : ∀ {α : Type} (x : Option α), gd (inb (Int32.ofNat j + (1 : Int32)) L) x = x := fun x => gd_j (c := 1) hL (by omega) x
  unfold L_law_c881
  simp only [g1]
  exact lawI (sim_descendants h _) rec _
theorem go_c937 (hL : L ≤ 2560) (hj : j + 5 ≤ L) (h : Inv M n) : ∃ (n2 : Nat) (M2 : Me), Inv M2 n2 ∧ L_law_c937 xs L rec (Int32.ofNat j) M = rec (Int32.ofNat j + 5) M2 := by
  have g1 : ∀ {α : Type} (x : Option α), gd (inb (Int32.ofNat j + (1 : Int32)) L) x = x := fun x => gd_j (c := 1) hL (by omega) x
  have g2 : ∀ {α : Type} (x : Option α), gd (inb (Int32.ofNat j + (2 : Int32)) L) x = x := fun x => gd_j (c := 2) hL (by omega) x
  unfold L_law_c937
  simp only [g1, g2]
  exact lawI (sim_lines h _ _) rec _
theorem go_c1005 (hL : L ≤ 2560) (hj : j + 5 ≤ L) (h : Inv M n) : ∃ (n2 : Nat) (M2 : Me), Inv M2 n2 ∧ L_law_c1005 xs L rec (Int32.ofNat j) M = rec (Int32.ofNat j + 5) M2 := by
  have g1 : ∀ {α : Type} (x : Option α), gd (inb (Int32.ofNat j + (1 : Int32)) L) x = x := fun x => gd_j (c := 1) hL (by omega) x
  have g2 : ∀ {α : Type} (x : Option α), gd (inb (Int32.ofNat j + (2 : Int32)) L) x = x := fun x => gd_j (c := 2) hL (by omega) x
  unfold L_law_c1005
  simp only [g1, g2]
  exact lawI (sim_nearest h _ _) rec _
theorem go_c1073 (hL : L ≤ 2560) (hj : j + 5 ≤ L) (h : Inv M n) : ∃ (n2 : Nat) (M2 : Me), Inv M2 n2 ∧ L_law_c1073 xs L rec (Int32.ofNat j) M = rec (Int32.ofNat j + 5) M2 := by
  have g1 : ∀ {α : Type} (x : Option α), gd (inb (Int32.ofNat j + (1 : Int32)) L) x = x := fun x => gd_j (c := 1) hL (by omega) x
  unfold L_law_c1073
  simp only [g1]
  exact lawI (sim_closest h _) rec _
theorem go_c1129 (hL : L ≤ 2560) (hj : j + 5 ≤ L) (h : Inv M n) : ∃ (n2 : Nat) (M2 : Me), Inv M2 n2 ∧ L_law_c1129 xs L rec (Int32.ofNat j) M = rec (Int32.ofNat j + 5) M2 := by
  have g1 : ∀ {α : Type} (x : Option α), gd (inb (Int32.ofNat j + (1 : Int32)) L) x = x := fun x => gd_j (c := 1) hL (by omega) x
  unfold L_law_c1129
  simp only [g1]
  exact lawI (sim_bestBull h _) rec _
theorem go_c1185 (sp : SPL) (hL : L ≤ 2560) (hj : j + 5 ≤ L) (h : Inv M n) : ∃ (n2 : Nat) (M2 : Me), Inv M2 n2 ∧ L_law_c1185 xs L rec (Int32.ofNat j) M = rec (Int32.ofNat j + 5) M2 := by
  have g1 : ∀ {α : Type} (x : Option α), gd (inb (Int32.ofNat j + (1 : Int32)) L) x = x := fun x => gd_j (c := 1) hL (by omega) x
  have g2 : ∀ {α : Type} (x : Option α), gd (inb (Int32.ofNat j + (2 : Int32)) L) x = x := fun x => gd_j (c := 2) hL (by omega) x
  have g3 : ∀ {α : Type} (x : Option α), gd (inb (Int32.ofNat j + (3 : Int32)) L) x = x := fun x => gd_j (c := 3) hL (by omega) x
  have g4 : ∀ {α : Type} (x : Option α), gd (inb (Int32.ofNat j + (4 : Int32)) L) x = x := fun x => gd_j (c := 4) hL (by omega) x
  unfold L_law_c1185
  simp only [g1, g2, g3, g4]
  exact lawL (sp M n h _ _ _) rec _
theorem go_c1296 (hL : L ≤ 2560) (hj : j + 5 ≤ L) (h : Inv M n) : ∃ (n2 : Nat) (M2 : Me), Inv M2 n2 ∧ L_law_c1296 xs L rec (Int32.ofNat j) M = rec (Int32.ofNat j + 5) M2 := by
  have g1 : ∀ {α : Type} (x : Option α), gd (inb (Int32.ofNat j + (1 : Int32)) L) x = x := fun x => gd_j (c := 1) hL (by omega) x
  unfold L_law_c1296
  simp only [g1]
  exact lawI (sim_bull h _) rec _
theorem go_c1352 (hL : L ≤ 2560) (hj : j + 5 ≤ L) (h : Inv M n) : ∃ (n2 : Nat) (M2 : Me), Inv M2 n2 ∧ L_law_c1352 xs L rec (Int32.ofNat j) M = rec (Int32.ofNat j + 5) M2 := by
  unfold L_law_c1352
  exact lawP (sim_planned h) rec _
theorem go_b (sp : SPL) (hL : L ≤ 2560) (hj : j + 5 ≤ L) (h : Inv M n) (hlt : ¬ Int32.ofNat L - 5 < Int32.ofNat j) : ∃ (n2 : Nat) (M2 : Me), Inv M2 n2 ∧ L_law_b23 xs L rec (Int32.ofNat j) M = rec (Int32.ofNat j + 5) M2 := by
  unfold L_law_b23
  rw [if_neg hlt, gd_in (by omega) (by omega)]
  generalize gS xs (Int32.ofNat j) &&& 31 = w
  by_cases h0 : w = 0
  · rw [if_pos h0]; exact go_c136 hL hj h
  rw [if_neg h0]
  by_cases h1 : w = 1
  · rw [if_pos h1]; exact go_c228 hL hj h
  rw [if_neg h1]
  by_cases h2 : w = 2
  · rw [if_pos h2]; exact go_c308 hL hj h
  rw [if_neg h2]
  by_cases h3 : w = 3
  · rw [if_pos h3]; exact go_c364 hL hj h
  rw [if_neg h3]
  by_cases h4 : w = 4
  · rw [if_pos h4]; exact go_c432 hL hj h
  rw [if_neg h4]
  by_cases h5 : w = 5
  · rw [if_pos h5]; exact go_c445 hL hj h
  rw [if_neg h5]
  by_cases h6 : w = 6
  · rw [if_pos h6]; exact go_c512 hL hj h
  rw [if_neg h6]
  by_cases h7 : w = 7
  · rw [if_pos h7]; exact go_c567 hL hj h
  rw [if_neg h7]
  by_cases h8 : w = 8
  · rw [if_pos h8]; exact go_c634 hL hj h
  rw [if_neg h8]
  by_cases h9 : w = 9
  · rw [if_pos h9]; exact go_c701 hL hj h
  rw [if_neg h9]
  by_cases h10 : w = 10
  · rw [if_pos h10]; exact go_c756 hL hj h
  rw [if_neg h10]
  by_cases h11 : w = 11
  · rw [if_pos h11]; exact go_c811 hL hj h
  rw [if_neg h11]
  by_cases h12 : w = 12
  · rw [if_pos h12]; exact go_c825 hL hj h
  rw [if_neg h12]
  by_cases h13 : w = 13
  · rw [if_pos h13]; exact go_c881 hL hj h
  rw [if_neg h13]
  by_cases h14 : w = 14
  · rw [if_pos h14]; exact go_c937 hL hj h
  rw [if_neg h14]
  by_cases h15 : w = 15
  · rw [if_pos h15]; exact go_c1005 hL hj h
  rw [if_neg h15]
  by_cases h16 : w = 16
  · rw [if_pos h16]; exact go_c1073 hL hj h
  rw [if_neg h16]
  by_cases h17 : w = 17
  · rw [if_pos h17]; exact go_c1129 hL hj h
  rw [if_neg h17]
  by_cases h18 : w = 18
  · rw [if_pos h18]; exact go_c1185 sp hL hj h
  rw [if_neg h18]
  by_cases h19 : w = 19
  · rw [if_pos h19]; exact go_c1296 hL hj h
  rw [if_neg h19]
  by_cases h20 : w = 20
  · rw [if_pos h20]; exact go_c1352 hL hj h
  rw [if_neg h20]
  exact ⟨n, M, h, rfl⟩
theorem lt_L (hL : L ≤ 2560) (hj : j ≤ 2600) : Int32.ofNat L - 5 < Int32.ofNat j ↔ L < j + 5 := by
  by_cases h : 5 ≤ L
  · have e : Int32.ofNat L - 5 = Int32.ofNat (L - 5) := by
      have e1 : Int32.ofNat L = Int32.ofNat (L - 5) + 5 := by
        show _ = Int32.ofNat (L - 5) + Int32.ofNat 5
        rw [← Int32.ofNat_add]
        exact congrArg _ (by omega)
      rw [e1, Int32.add_sub_cancel]
    rw [e, of_lt (by omega) (by omega)]
    omega
  · have h5 : Int32.ofNat L - 5 < 0 := by
      have : L = 0 ∨ L = 1 ∨ L = 2 ∨ L = 3 ∨ L = 4 := by omega
      rcases this with q | q | q | q | q <;> subst q <;> decide
    exact ⟨fun _ => by omega, fun _ => Int32.lt_of_lt_of_le h5 (of_0le (by omega))⟩
theorem go_all (sp : SPL) (hL : L ≤ 2560) : ∀ (F j n : Nat) (M : Me), Inv M n → j ≤ L → L < j + 5 * F → ∃ r : Int32 × Me, L_law_L23 xs L F (Int32.ofNat j) M = some r ∧ r.1 = 1 := by
  intro F
  induction F with
  | zero => intro j n M h h1 h2; omega
  | succ F ih =>
    intro j n M h h1 h2
    show ∃ r : Int32 × Me, L_law_b23 xs L (L_law_L23 xs L F) (Int32.ofNat j) M = some r ∧ r.1 = 1
    by_cases hlt : Int32.ofNat L - 5 < Int32.ofNat j
    · refine ⟨(1, M), ?_, rfl⟩
      unfold L_law_b23
      rw [if_pos hlt]
    · have hj : j + 5 ≤ L := by
        rw [lt_L hL (by omega)] at hlt
        omega
      obtain ⟨n2, M2, k1, k2⟩ := go_b (xs := xs) (rec := L_law_L23 xs L F) sp hL hj h hlt
      rw [k2]
      have e5 : Int32.ofNat j + 5 = Int32.ofNat (j + 5) := (Int32.ofNat_add j 5).symm
      rw [e5]
      exact ih (j + 5) n2 M2 k1 hj (by omega)
theorem Inv_0 : Inv M0 0 := by
  refine ⟨⟨by omega, rfl, rfl⟩, fun i hi => absurd hi (by omega), fun i hi => absurd hi (by omega), ⟨fun i hi => absurd hi (by omega), fun i _ _ => rfl⟩, fun i j hi => absurd hi (by omega), fun i hi => absurd hi (by omega), fun i hi => absurd hi (by omega), ⟨fun i hi => ⟨rfl, Or.inl (if_pos hi), fun _ => if_pos hi⟩, Or.inl ⟨rfl, rfl⟩⟩⟩
theorem law_of (sp : SPL) (xs : Nat → Int32) (L : Nat) (hL : L ≤ 2560) : ∃ r : Int32 × Me, L_law_L23 xs L 513 0 M0 = some r ∧ r.1 = 1 := go_all sp hL 513 0 0 M0 Inv_0 (by omega) (by omega)
end LOOP
