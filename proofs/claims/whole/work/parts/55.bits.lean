/-! bits of an int -/
def bt (x : Int32) (k : Nat) : Bool := x.toBitVec.getLsbD k
section BITS
variable {x y : Int32} {k : Nat}
theorem bt_or : bt (x ||| y) k = (bt x k || bt y k) := by unfold bt; rw [Int32.toBitVec_or, BitVec.getLsbD_or]
theorem bt_and : bt (x &&& y) k = (bt x k && bt y k) := by unfold bt; rw [Int32.toBitVec_and, BitVec.getLsbD_and]
theorem bt_xor : bt (x ^^^ y) k = (bt x k ^^ bt y k) := by unfold bt; rw [Int32.toBitVec_xor, BitVec.getLsbD_xor]
theorem bt_0 : bt 0 k = false := by
  unfold bt
  show (0#32).getLsbD k = false
  simp
theorem bt_m1 : ∀ k, k < 32 → bt (-1) k = true := by decide +kernel
theorem bt_1 : ∀ k, k < 32 → bt 1 k = decide (k = 0) := by decide +kernel
theorem bt_shl : ∀ j, j < 32 → ∀ k, k < 32 → bt ((1 : Int32) <<< (Int32.ofNat j &&& 31)) k = decide (k = j) := by decide +kernel
theorem bt_ext (h : ∀ k, k < 32 → bt x k = bt y k) : x = y := Int32.toBitVec.inj (BitVec.eq_of_getLsbD_eq h)
theorem smod_of : ∀ k, k < 32 → ((Int32.ofNat k &&& 31).toBitVec.smod 32).toNat = k := by decide +kernel
theorem bt_shr0 (hk : k < 32) : bt (x >>> (Int32.ofNat k &&& 31)) 0 = bt x k := by
  unfold bt
  show (x.toBitVec.sshiftRight' ((Int32.ofNat k &&& 31).toBitVec.smod 32)).getLsbD 0 = _
  rw [BitVec.getLsbD_sshiftRight', smod_of k hk]
  simp [hk]
theorem and1_0 : y &&& 1 = 0 ↔ bt y 0 = false := by
  constructor
  · intro h
    have h1 : bt (y &&& 1) 0 = bt 0 0 := by rw [h]
    rw [bt_and, bt_1 0 (by decide), bt_0] at h1
    simpa using h1
  · intro h
    apply bt_ext
    intro j hj
    rw [bt_and, bt_1 j hj, bt_0]
    by_cases h0 : j = 0
    · rw [h0, h]; rfl
    · rw [decide_eq_false h0, Bool.and_false]
theorem and1_1 : y &&& 1 = 1 ↔ bt y 0 = true := by
  constructor
  · intro h
    have h1 : bt (y &&& 1) 0 = bt 1 0 := by rw [h]
    rw [bt_and, bt_1 0 (by decide)] at h1
    simpa using h1
  · intro h
    apply bt_ext
    intro j hj
    rw [bt_and, bt_1 j hj]
    by_cases h0 : j = 0
    · rw [h0, h]; rfl
    · rw [decide_eq_false h0, Bool.and_false]
theorem tst0 (hk : k < 32) : (x >>> (Int32.ofNat k &&& 31)) &&& 1 = 0 ↔ bt x k = false := by rw [and1_0, bt_shr0 hk]
theorem tst1 (hk : k < 32) : (x >>> (Int32.ofNat k &&& 31)) &&& 1 = 1 ↔ bt x k = true := by rw [and1_1, bt_shr0 hk]
end BITS
/-! int arrays that are scratch -/
theorem uI_uI (M : Me) (a : Nat) (f g : Nat → Int32) : uI (uI M a f) a g = uI M a g := by
  unfold uI
  refine congrArg (fun z => (z, M.2)) ?_
  funext b
  show (if b = a then g else if b = a then f else M.1 b) = _
  by_cases h : b = a
  · rw [if_pos h, if_pos h]
  · rw [if_neg h, if_neg h, if_neg h]
theorem uI_self (M : Me) (a : Nat) (f : Nat → Int32) : (uI M a f).1 a = f := if_pos rfl
theorem uI_id (M : Me) (a : Nat) : uI M a (M.1 a) = M := by
  unfold uI
  have h : (fun b => if b = a then M.1 a else M.1 b) = M.1 := by
    funext b
    by_cases h : b = a
    · rw [if_pos h, h]
    · rw [if_neg h]
  rw [h]
theorem sI_uI (M : Me) (a : Nat) (f : Nat → Int32) (i x : Int32) : sI (uI M a f) a i x = uI M a (upd f i.toNatClampNeg x) := by
  unfold sI
  rw [uI_self, uI_uI]
theorem gI_uI (M : Me) (a : Nat) (f : Nat → Int32) {k : Nat} (hk : k < 2147483648) : gI (uI M a f) a (Int32.ofNat k) = f k := by
  rw [gI_of _ a hk, uI_self]
theorem uI_ne (M : Me) {a b : Nat} (f : Nat → Int32) (h : ¬ b = a) : (uI M a f).1 b = M.1 b := if_neg h
theorem Ag_uI (M : Me) {a : Nat} (f : Nat → Int32) (ha : scI a = true) : Ag M (uI M a f) := ⟨fun b hb => if_neg (ne_sc ha hb), fun _ _ => rfl, fun _ _ => rfl⟩
/-! lines of descent: numbers -/
def nq (T : Nat → Nat) (p : Int32) : Nat := if p = -1 then 0 else T p.toNatClampNeg
def nlstep (S D : Nat → Int32) (f : Nat) : (Nat → Nat) → Nat → Nat := fun T i => if i = f then 1 else nq T (S i) + nq T (D i)
abbrev NL (S D : Nat → Int32) (f n : Nat) : Nat → Nat := Tb (nlstep S D f) 0 n
section NLS
variable {n : Nat} {S D : Nat → Int32}
theorem nq_of {T : Nat → Nat} {k : Nat} (hk : k < 2147483648) : nq T (Int32.ofNat k) = T k := by
  unfold nq; rw [if_neg (of_nm1 hk), of_cl hk]
theorem nq_to {T T' : Nat → Nat} {p : Int32} {i : Nat} (hp : par p i) (hi : i ≤ 24) (hT : ∀ k, k < i → T k = T' k) : nq T p = nq T' p := by
  rcases hp with hp | ⟨k, hk, hp⟩
  · unfold nq; rw [if_pos hp, if_pos hp]
  · rw [hp, nq_of (by omega), nq_of (by omega), hT k hk]
theorem NL_val (hp : PR S D n) (hn : n ≤ 24) {f i : Nat} (hi : i < n) (hf : ¬ i = f) : NL S D f n i = nq (NL S D f n) (S i) + nq (NL S D f n) (D i) := by
  have hT : ∀ k, k < i → Tb (nlstep S D f) 0 i k = NL S D f n k := fun k hk => (Tb_to (m := n) hk (by omega)).symm
  show Tb (nlstep S D f) 0 n i = _
  rw [Tb_val hi]
  show (if i = f then 1 else nq (Tb (nlstep S D f) 0 i) (S i) + nq (Tb (nlstep S D f) 0 i) (D i)) = _
  rw [if_neg hf, nq_to (hp i hi).1 (by omega) hT, nq_to (hp i hi).2 (by omega) hT]
theorem NL_self {f : Nat} (hf : f < n) : NL S D f n f = 1 := by
  show Tb (nlstep S D f) 0 n f = _
  rw [Tb_val hf]
  exact if_pos rfl
theorem NL_low (hp : PR S D n) (hn : n ≤ 24) {f : Nat} : ∀ i, i < n → i < f → NL S D f n i = 0 := by
  intro i
  induction i using Nat.strongRecOn with
  | ind i ih =>
    intro hi hf
    rw [NL_val hp hn hi (by omega)]
    have z : ∀ p, par p i → nq (NL S D f n) p = 0 := fun p hpp => by
      rcases hpp with hpp | ⟨k, hk, hpp⟩
      · unfold nq; rw [if_pos hpp]
      · rw [hpp, nq_of (by omega)]; exact ih k hk (by omega) (by omega)
    rw [z _ (hp i hi).1, z _ (hp i hi).2]
theorem NL_le (hp : PR S D n) (hn : n ≤ 24) {f : Nat} : ∀ i, i < n → NL S D f n i ≤ 2 ^ i := by
  intro i
  induction i using Nat.strongRecOn with
  | ind i ih =>
    intro hi
    by_cases hf : i = f
    · subst hf
      rw [NL_self hi]
      exact Nat.one_le_two_pow
    · rw [NL_val hp hn hi hf]
      have z : ∀ p, par p i → 2 * nq (NL S D f n) p ≤ 2 ^ i := fun p hpp => by
        rcases hpp with hpp | ⟨k, hk, hpp⟩
        · unfold nq; rw [if_pos hpp]; exact Nat.zero_le _
        · rw [hpp, nq_of (by omega)]
          have h1 := ih k hk (by omega)
          have h2 : 2 ^ (k + 1) ≤ 2 ^ i := Nat.pow_le_pow_right (by omega) (by omega)
          rw [Nat.pow_succ] at h2
          omega
      have h1 := z _ (hp i hi).1
      have h2 := z _ (hp i hi).2
      omega
theorem NL_lt (hp : PR S D n) (hn : n ≤ 24) {f i : Nat} (hi : i < n) : NL S D f n i < 2147483648 := by
  have h1 := NL_le hp hn (f := f) i hi
  have h2 : 2 ^ i ≤ 2 ^ 24 := Nat.pow_le_pow_right (by omega) (by omega)
  have h3 : (2 : Nat) ^ 24 = 16777216 := by decide
  omega
/-- the lines as the programs count them -/
def lnq (T : Nat → Nat) (p : Int32) : Int32 := Int32.ofNat (nq T p)
theorem lnq_of {T : Nat → Nat} {k : Nat} (hk : k < 2147483648) : lnq T (Int32.ofNat k) = Int32.ofNat (T k) := by unfold lnq; rw [nq_of hk]
theorem lnq_m1 {T : Nat → Nat} : lnq T (-1) = 0 := rfl
/-- the forebears' bits are those with a line -/
theorem FB_bits (hp : PR S D n) (hn : n ≤ 24) : ∀ i, i < n → ∀ k, k < 32 → bt (Tb (fstep S D) 0 n i) k = decide (k < i ∧ 0 < NL S D k n i) := by
  intro i
  induction i using Nat.strongRecOn with
  | ind i ih =>
    intro hi k hk
    have hq : ∀ p, par p i → bt (fq (Tb (fstep S D) 0 i) p) k = decide (k < i ∧ 0 < nq (NL S D k n) p) := fun p hpp => by
      unfold fq
      rcases hpp with hpp | ⟨j, hj, hpp⟩
      · rw [if_pos hpp, bt_0]
        unfold nq
        rw [if_pos hpp]
        symm
        exact decide_eq_false (fun h => absurd h.2 (Nat.lt_irrefl 0))
      · have e : Tb (fstep S D) 0 i j = Tb (fstep S D) 0 n j := (Tb_to (m := n) hj (by omega)).symm
        rw [hpp, if_neg (of_nm1 (by omega)), of_cl (by omega), e, bt_or, ih j hj (by omega) k hk, bt_shl j (by omega) k hk, nq_of (by omega)]
        by_cases hkj : k = j
        · subst hkj
          rw [NL_self (by omega)]
          simp [hj]
        · rw [decide_eq_false hkj, Bool.or_false]
          by_cases hlt : k < j
          · simp [hlt, show k < i by omega]
          · rw [NL_low hp hn j (by omega) (by omega)]
            simp
    rw [Tb_val hi]
    show bt (fq (Tb (fstep S D) 0 i) (S i) ||| fq (Tb (fstep S D) 0 i) (D i)) k = _
    rw [bt_or, hq _ (hp i hi).1, hq _ (hp i hi).2]
    by_cases hki : k < i
    · rw [NL_val hp hn hi (by omega)]
      simp only [hki, true_and]
      by_cases h1 : 0 < nq (NL S D k n) (S i) <;> by_cases h2 : 0 < nq (NL S D k n) (D i) <;> simp [h1, h2] <;> omega
    · simp [hki]
end NLS
