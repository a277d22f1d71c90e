/-! reading behind writing -/
section MEM
variable (M : Me) (a b k : Nat) (i j : Int32) (x : Int32) (y : Int64) (n : Nat)
theorem sI_1 : (sI M a i x).1 b k = if b = a ∧ k = i.toNatClampNeg then x else M.1 b k := by
  simp only [sI, uI, upd]
  by_cases h : b = a
  · subst h; simp [upd, vp_updL]
  · simp [h]
theorem sI_2 : (sI M a i x).2.1 = M.2.1 := rfl
theorem sI_3 : (sI M a i x).2.2.1 = M.2.2.1 := rfl
theorem sI_4 : (sI M a i x).2.2.2 = M.2.2.2 := rfl
theorem sZ_1 : (sZ M a i x).1 b k = if b = a ∧ k = i.toNatClampNeg then vp_nar .boolean x else M.1 b k := by
  simp only [sZ, uI, upd]
  by_cases h : b = a
  · subst h; simp [upd, vp_updL]
  · simp [h]
theorem sZ_2 : (sZ M a i x).2.1 = M.2.1 := rfl
theorem sZ_3 : (sZ M a i x).2.2.1 = M.2.2.1 := rfl
theorem sZ_4 : (sZ M a i x).2.2.2 = M.2.2.2 := rfl
theorem sL_1 : (sL M a i y).1 = M.1 := rfl
theorem sL_2 : (sL M a i y).2.1 b k = if b = a ∧ k = i.toNatClampNeg then y else M.2.1 b k := by
  simp only [sL, uL, vp_updL]
  by_cases h : b = a
  · subst h; simp [upd, vp_updL]
  · simp [h]
theorem sL_3 : (sL M a i y).2.2.1 = M.2.2.1 := rfl
theorem sL_4 : (sL M a i y).2.2.2 = M.2.2.2 := rfl
theorem sR_1 : (sR M j i y).1 = M.1 := rfl
theorem sR_2 : (sR M j i y).2.1 b k = if b = 8 + j.toNatClampNeg ∧ k = i.toNatClampNeg then y else M.2.1 b k := by
  simp only [sR, uL, vp_updL]
  by_cases h : b = 8 + j.toNatClampNeg
  · subst h; simp [upd, vp_updL]
  · simp [h]
theorem sR_3 : (sR M j i y).2.2.1 = M.2.2.1 := rfl
theorem sR_4 : (sR M j i y).2.2.2 = M.2.2.2 := rfl
theorem sF_1 : (sF M a x).1 = M.1 := rfl
theorem sF_2 : (sF M a x).2.1 = M.2.1 := rfl
theorem sF_3 : (sF M a x).2.2.1 b = if b = a then x else M.2.2.1 b := rfl
theorem sF_4 : (sF M a x).2.2.2 = M.2.2.2 := rfl
theorem sG_1 : (sG M a y).1 = M.1 := rfl
theorem sG_2 : (sG M a y).2.1 = M.2.1 := rfl
theorem sG_3 : (sG M a y).2.2.1 = M.2.2.1 := rfl
theorem sG_4 : (sG M a y).2.2.2 b = if b = a then y else M.2.2.2 b := rfl
theorem fI_1 : (fI M a n x).1 b k = if b = a ∧ k < n then x else M.1 b k := by
  simp only [fI, uI]
  by_cases h : b = a
  · subst h; simp
  · simp [h]
theorem fI_2 : (fI M a n x).2.1 = M.2.1 := rfl
theorem fI_3 : (fI M a n x).2.2.1 = M.2.2.1 := rfl
theorem fI_4 : (fI M a n x).2.2.2 = M.2.2.2 := rfl
theorem fL_1 : (fL M a n y).1 = M.1 := rfl
theorem fL_2 : (fL M a n y).2.1 b k = if b = a ∧ k < n then y else M.2.1 b k := by
  simp only [fL, uL]
  by_cases h : b = a
  · subst h; simp
  · simp [h]
theorem fL_3 : (fL M a n y).2.2.1 = M.2.2.1 := rfl
theorem fL_4 : (fL M a n y).2.2.2 = M.2.2.2 := rfl
end MEM
theorem nz_true : vp_nar .boolean 1 = 1 := by decide
theorem nz_false : vp_nar .boolean 0 = 0 := by decide
theorem of_cl {k : Nat} (h : k < 2147483648) : (Int32.ofNat k).toNatClampNeg = k := Int32.toNatClampNeg_ofNat_of_lt h
theorem of_s (k : Nat) : Int32.ofNat k + 1 = Int32.ofNat (k + 1) := (Int32.ofNat_add k 1).symm
theorem of_lt {a b : Nat} (ha : a < 2147483648) (hb : b < 2147483648) : Int32.ofNat a < Int32.ofNat b ↔ a < b := Int32.ofNat_lt_iff_lt ha hb
theorem of_le {a b : Nat} (ha : a < 2147483648) (hb : b < 2147483648) : Int32.ofNat a ≤ Int32.ofNat b ↔ a ≤ b := Int32.ofNat_le_iff_le ha hb
theorem of_eq {a b : Nat} (ha : a < 2147483648) (hb : b < 2147483648) : Int32.ofNat a = Int32.ofNat b ↔ a = b := by
  constructor
  · intro h
    have h1 := congrArg Int32.toNatClampNeg h
    rwa [of_cl ha, of_cl hb] at h1
  · intro h; rw [h]
theorem of_0le {k : Nat} (h : k < 2147483648) : (0 : Int32) ≤ Int32.ofNat k := Int32.zero_le_ofNat_of_lt h
theorem of_nlt0 {k : Nat} (h : k < 2147483648) : ¬ Int32.ofNat k < 0 := Int32.not_lt.mpr (of_0le h)
theorem of_nm1 {k : Nat} (h : k < 2147483648) : ¬ Int32.ofNat k = -1 := by
  intro h1
  have h2 := of_0le h
  rw [h1] at h2
  exact absurd h2 (by decide)
theorem inb_of {k n : Nat} (h : k < n) (hn : n ≤ 2147483648) : inb (Int32.ofNat k) n = true := by
  unfold inb
  rw [of_cl (by omega), decide_eq_true (of_0le (by omega)), decide_eq_true h]
  rfl
theorem gd_true {α : Type} (x : Option α) : gd true x = x := rfl
theorem of_of {x : Int32} (h : 0 ≤ x) : Int32.ofNat x.toNatClampNeg = x := Int32.ofNat_toNatClampNeg x h
