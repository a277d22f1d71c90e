/-! the number of set bits, both ways -/
section COUNT
def cwc (v : Int32) : Nat → Nat
  | 0 => 0
  | i + 1 => cwc v i + (if bt v i = true then 1 else 0)
theorem cwc_le (v : Int32) : ∀ i, cwc v i ≤ i := by
  intro i
  induction i with
  | zero => exact Nat.le_refl _
  | succ i ih =>
    show cwc v i + (if bt v i = true then 1 else 0) ≤ i + 1
    split <;> omega
theorem cwc_mono (v : Int32) {i : Nat} : ∀ d, cwc v i ≤ cwc v (i + d) := by
  intro d
  induction d with
  | zero => exact Nat.le_refl _
  | succ d ih =>
    show cwc v i ≤ cwc v (i + d) + (if bt v (i + d) = true then 1 else 0)
    omega
theorem bit_v (v : Int32) {i : Nat} (hi : i < 32) : (v >>> (Int32.ofNat i &&& 31)) &&& 1 = Int32.ofNat (if bt v i = true then 1 else 0) := by
  cases h : bt v i
  · rw [(tst0 hi).mpr h]; rfl
  · rw [(tst1 hi).mpr h]; rfl
theorem bitsL (M : Me) (v : Int32) : ∀ (e i F : Nat), i + e = 32 → e < F → M_bitsOf_L4 M F v (Int32.ofNat (cwc v i)) (Int32.ofNat i) = some (Int32.ofNat (cwc v 32)) := by
  intro e
  induction e with
  | zero =>
    intro i F hi hF
    obtain ⟨F, rfl⟩ := succ_of hF
    have hi2 : i = 32 := by omega
    subst hi2
    show M_bitsOf_b4 _ _ _ _ _ = _
    unfold M_bitsOf_b4
    rw [if_pos (by decide)]
  | succ e ih =>
    intro i F hi hF
    obtain ⟨F, rfl⟩ := succ_of hF
    rw [← ih (i + 1) F (by omega) (by omega)]
    show M_bitsOf_b4 _ _ _ _ _ = _
    unfold M_bitsOf_b4
    rw [if_neg (show ¬ (32 : Int32) ≤ Int32.ofNat i from fun q => by have := (of_le (a := 32) (by omega) (by omega)).mp q; omega), bit_v v (by omega), ← Int32.ofNat_add, of_s]
    rfl
theorem bitsOf_v (M : Me) (v : Int32) : M_bitsOf M v = some (Int32.ofNat (cwc v 32)) := bitsL M v 32 0 64 (by omega) (by omega)
/-! the JDK's way -/
def nat (x : Int32) : Nat := x.toBitVec.toNat
def us (k x : Int32) : Int32 := (x.toUInt32 >>> (k.toUInt32 &&& Int32.toUInt32 31)).toInt32
def jA (v : Int32) : Int32 := v - (us 1 v &&& 1431655765)
def jB (v : Int32) : Int32 := (v &&& 858993459) + (us 2 v &&& 858993459)
def jC (v : Int32) : Int32 := (v + us 4 v) &&& 252645135
def jD (v : Int32) : Int32 := v + us 8 v
def jE (v : Int32) : Int32 := (v + us 16 v) &&& 63
theorem bitCount_e (M : Me) (v : Int32) : J_bitCount M v = some (jE (jD (jC (jB (jA v))))) := rfl
theorem nat_us {k : Int32} {c : Nat} (hk : ((k.toUInt32 &&& Int32.toUInt32 31).toBitVec % 32).toNat = c) (x : Int32) : nat (us k x) = nat x / 2 ^ c := by
  unfold nat us
  rw [UInt32.toBitVec_toInt32, UInt32.toBitVec_shiftRight, Int32.toBitVec_toUInt32]
  rw [BitVec.ushiftRight_eq', hk, BitVec.toNat_ushiftRight, Nat.shiftRight_eq_div_pow]
theorem nat_and (x y : Int32) : nat (x &&& y) = nat x &&& nat y := by
  unfold nat
  rw [Int32.toBitVec_and, BitVec.toNat_and]
theorem nat_add {x y : Int32} (h : nat x + nat y < 4294967296) : nat (x + y) = nat x + nat y := by
  unfold nat at h ⊢
  rw [Int32.toBitVec_add, BitVec.toNat_add]
  exact Nat.mod_eq_of_lt h
theorem nat_sub {x y : Int32} (h : nat y ≤ nat x) : nat (x - y) = nat x - nat y := by
  unfold nat at h ⊢
  rw [Int32.toBitVec_sub]
  exact BitVec.toNat_sub_of_le h
theorem nat_inj {x y : Int32} (h : nat x = nat y) : x = y := Int32.toBitVec.inj (BitVec.eq_of_toNat_eq h)
theorem nat_of {k : Nat} (h : k < 4294967296) : nat (Int32.ofNat k) = k := by
  show (BitVec.ofNat 32 k).toNat = k
  rw [BitVec.toNat_ofNat]
  exact Nat.mod_eq_of_lt h
theorem and_split {a c : Nat} (w u : Nat) (ha : a < 256) (hc : c < 256) : (a + 256 * w) &&& (c + 256 * u) = (a &&& c) + 256 * (w &&& u) := by
  have h1 : ((a + 256 * w) &&& (c + 256 * u)) % 2 ^ 8 = a &&& c := by
    rw [Nat.and_mod_two_pow]
    rw [show (a + 256 * w) % 2 ^ 8 = a by omega, show (c + 256 * u) % 2 ^ 8 = c by omega]
  have h2 : ((a + 256 * w) &&& (c + 256 * u)) / 2 ^ 8 = w &&& u := by
    rw [Nat.and_div_two_pow]
    rw [show (a + 256 * w) / 2 ^ 8 = w by omega, show (c + 256 * u) / 2 ^ 8 = u by omega]
  omega
def wd (a b c d : Nat) : Nat := a + 256 * (b + 256 * (c + 256 * d))
theorem wd_and {a b c d e : Nat} (ha : a < 256) (hb : b < 256) (hc : c < 256) (hd : d < 256) (he : e < 256) : wd a b c d &&& wd e e e e = wd (a &&& e) (b &&& e) (c &&& e) (d &&& e) := by
  unfold wd
  rw [and_split _ _ ha he, and_split _ _ hb he, and_split _ _ hc he]
def q1 (a : Nat) : Nat := a - (a / 2 &&& 85)
def q2 (a : Nat) : Nat := (a &&& 51) + (a / 4 &&& 51)
def pc8 (a : Nat) : Nat := (if a.testBit 0 = true then 1 else 0) + (if a.testBit 1 = true then 1 else 0) + (if a.testBit 2 = true then 1 else 0) + (if a.testBit 3 = true then 1 else 0) + (if a.testBit 4 = true then 1 else 0) + (if a.testBit 5 = true then 1 else 0) + (if a.testBit 6 = true then 1 else 0) + (if a.testBit 7 = true then 1 else 0)
theorem by_1 : ∀ a, a < 256 → ∀ t, t < 2 → (a / 2 + 128 * t) &&& 85 = a / 2 &&& 85 := by decide +kernel
theorem by_2 : ∀ a, a < 256 → ∀ t, t < 4 → (a / 4 + 64 * t) &&& 51 = a / 4 &&& 51 := by decide +kernel
theorem by_3 : ∀ a, a < 69 → ∀ t, t < 5 → (a + a / 16 + 16 * t) &&& 15 = (a + a / 16) &&& 15 := by decide +kernel
theorem by_q : ∀ a, a < 256 → (a / 2 &&& 85) ≤ a ∧ q1 a < 256 ∧ (q1 a &&& 51) < 128 ∧ (q1 a / 4 &&& 51) < 128 ∧ q2 (q1 a) < 69 ∧ q2 (q1 a) % 16 < 5 ∧ (q2 (q1 a) + q2 (q1 a) / 16) &&& 15 = pc8 a ∧ pc8 a ≤ 8 := by decide +kernel
variable {v : Int32} {a b c d : Nat}
theorem st_A (ha : a < 256) (hb : b < 256) (hc : c < 256) (hd : d < 256) (h : nat v = wd a b c d) : nat (jA v) = wd (q1 a) (q1 b) (q1 c) (q1 d) := by
  have e1 : nat (us 1 v) = wd (a / 2 + 128 * (b % 2)) (b / 2 + 128 * (c % 2)) (c / 2 + 128 * (d % 2)) (d / 2 + 128 * 0) := by
    rw [nat_us (c := 1) (by decide), h]
    unfold wd
    omega
  have e2 : nat (us 1 v &&& 1431655765) = wd (a / 2 &&& 85) (b / 2 &&& 85) (c / 2 &&& 85) (d / 2 &&& 85) := by
    rw [nat_and, e1]
    have e3 : nat (1431655765 : Int32) = wd 85 85 85 85 := by decide +kernel
    rw [e3, wd_and (by omega) (by omega) (by omega) (by omega) (by omega), by_1 a ha _ (by omega), by_1 b hb _ (by omega), by_1 c hc _ (by omega), by_1 d hd _ (by omega)]
  have pa := (by_q a ha).1
  have pb := (by_q b hb).1
  have pc := (by_q c hc).1
  have pd := (by_q d hd).1
  unfold jA
  rw [nat_sub (by rw [e2, h]; unfold wd; omega), e2, h]
  unfold wd q1
  omega
theorem st_B (ha : a < 256) (hb : b < 256) (hc : c < 256) (hd : d < 256) (h : nat v = wd (q1 a) (q1 b) (q1 c) (q1 d)) : nat (jB v) = wd (q2 (q1 a)) (q2 (q1 b)) (q2 (q1 c)) (q2 (q1 d)) := by
  obtain ⟨-, a1, a2, a3, -⟩ := by_q a ha
  obtain ⟨-, b1, b2, b3, -⟩ := by_q b hb
  obtain ⟨-, c1, c2, c3, -⟩ := by_q c hc
  obtain ⟨-, d1, d2, d3, -⟩ := by_q d hd
  have e3 : nat (858993459 : Int32) = wd 51 51 51 51 := by decide +kernel
  have e1 : nat (v &&& 858993459) = wd (q1 a &&& 51) (q1 b &&& 51) (q1 c &&& 51) (q1 d &&& 51) := by
    rw [nat_and, h, e3, wd_and a1 b1 c1 d1 (by omega)]
  have e2 : nat (us 2 v &&& 858993459) = wd (q1 a / 4 &&& 51) (q1 b / 4 &&& 51) (q1 c / 4 &&& 51) (q1 d / 4 &&& 51) := by
    have e4 : nat (us 2 v) = wd (q1 a / 4 + 64 * (q1 b % 4)) (q1 b / 4 + 64 * (q1 c % 4)) (q1 c / 4 + 64 * (q1 d % 4)) (q1 d / 4 + 64 * 0) := by
      rw [nat_us (c := 2) (by decide), h]
      unfold wd
      omega
    rw [nat_and, e4, e3, wd_and (by omega) (by omega) (by omega) (by omega) (by omega), by_2 _ a1 _ (by omega), by_2 _ b1 _ (by omega), by_2 _ c1 _ (by omega), by_2 _ d1 _ (by omega)]
  unfold jB
  rw [nat_add (by rw [e1, e2]; unfold wd; omega), e1, e2]
  unfold wd q2
  omega
theorem st_C (ha : a < 256) (hb : b < 256) (hc : c < 256) (hd : d < 256) (h : nat v = wd (q2 (q1 a)) (q2 (q1 b)) (q2 (q1 c)) (q2 (q1 d))) : nat (jC v) = wd (pc8 a) (pc8 b) (pc8 c) (pc8 d) := by
  obtain ⟨-, -, -, -, a1, a2, a3, -⟩ := by_q a ha
  obtain ⟨-, -, -, -, b1, b2, b3, -⟩ := by_q b hb
  obtain ⟨-, -, -, -, c1, c2, c3, -⟩ := by_q c hc
  obtain ⟨-, -, -, -, d1, d2, d3, -⟩ := by_q d hd
  have e1 : nat (us 4 v) = wd (q2 (q1 a) / 16 + 16 * (q2 (q1 b) % 16)) (q2 (q1 b) / 16 + 16 * (q2 (q1 c) % 16)) (q2 (q1 c) / 16 + 16 * (q2 (q1 d) % 16)) (q2 (q1 d) / 16 + 16 * 0) := by
    rw [nat_us (c := 4) (by decide), h]
    unfold wd
    omega
  have e2 : nat (v + us 4 v) = wd (q2 (q1 a) + q2 (q1 a) / 16 + 16 * (q2 (q1 b) % 16)) (q2 (q1 b) + q2 (q1 b) / 16 + 16 * (q2 (q1 c) % 16)) (q2 (q1 c) + q2 (q1 c) / 16 + 16 * (q2 (q1 d) % 16)) (q2 (q1 d) + q2 (q1 d) / 16 + 16 * 0) := by
    rw [nat_add (by rw [e1, h]; unfold wd; omega), e1, h]
    unfold wd
    omega
  have e3 : nat (252645135 : Int32) = wd 15 15 15 15 := by decide +kernel
  unfold jC
  rw [nat_and, e2, e3, wd_and (by omega) (by omega) (by omega) (by omega) (by omega), by_3 _ a1 _ b2, by_3 _ b1 _ c2, by_3 _ c1 _ d2, by_3 _ d1 _ (by omega), a3, b3, c3, d3]
theorem st_DE (ha : a ≤ 8) (hb : b ≤ 8) (hc : c ≤ 8) (hd : d ≤ 8) (h : nat v = wd a b c d) : jE (jD v) = Int32.ofNat (a + b + c + d) := by
  have e1 : nat (us 8 v) = wd b c d 0 := by
    rw [nat_us (c := 8) (by decide), h]
    unfold wd
    omega
  have e2 : nat (jD v) = wd (a + b) (b + c) (c + d) d := by
    unfold jD
    rw [nat_add (by rw [e1, h]; unfold wd; omega), e1, h]
    unfold wd
    omega
  have e3 : nat (us 16 (jD v)) = wd (c + d) d 0 0 := by
    rw [nat_us (c := 16) (by decide), e2]
    unfold wd
    omega
  have e4 : nat (jD v + us 16 (jD v)) = wd (a + b + c + d) (b + c + d) (c + d) d := by
    rw [nat_add (by rw [e2, e3]; unfold wd; omega), e2, e3]
    unfold wd
    omega
  refine nat_inj ?_
  unfold jE
  rw [nat_and, e4, nat_of (by omega), show nat (63 : Int32) = 2 ^ 6 - 1 by decide +kernel, Nat.and_two_pow_sub_one_eq_mod]
  unfold wd
  omega
theorem pc8_of (N j : Nat) : pc8 (N / 2 ^ j % 256) = (if N.testBit (j + 0) = true then 1 else 0) + (if N.testBit (j + 1) = true then 1 else 0) + (if N.testBit (j + 2) = true then 1 else 0) + (if N.testBit (j + 3) = true then 1 else 0) + (if N.testBit (j + 4) = true then 1 else 0) + (if N.testBit (j + 5) = true then 1 else 0) + (if N.testBit (j + 6) = true then 1 else 0) + (if N.testBit (j + 7) = true then 1 else 0) := by
  have k : ∀ i, i < 8 → (N / 2 ^ j % 256).testBit i = N.testBit (j + i) := fun i hi => by
    rw [show (256 : Nat) = 2 ^ 8 from rfl, Nat.testBit_mod_two_pow, Nat.testBit_div_two_pow, decide_eq_true hi, Bool.true_and, Nat.add_comm]
  unfold pc8
  rw [k 0 (by omega), k 1 (by omega), k 2 (by omega), k 3 (by omega), k 4 (by omega), k 5 (by omega), k 6 (by omega), k 7 (by omega)]
theorem bitCount_v (M : Me) (v : Int32) : J_bitCount M v = some (Int32.ofNat (cwc v 32)) := by
  have hN : nat v < 4294967296 := v.toBitVec.isLt
  have hw : nat v = wd (nat v / 2 ^ 0 % 256) (nat v / 2 ^ 8 % 256) (nat v / 2 ^ 16 % 256) (nat v / 2 ^ 24 % 256) := by
    unfold wd
    omega
  have k := fun a (ha : a < 256) => (by_q a ha).2.2.2.2.2.2.2
  have h1 := st_DE (k _ (by omega)) (k _ (by omega)) (k _ (by omega)) (k _ (by omega)) (st_C (by omega) (by omega) (by omega) (by omega) (st_B (by omega) (by omega) (by omega) (by omega) (st_A (by omega) (by omega) (by omega) (by omega) hw)))
  rw [bitCount_e, h1, pc8_of, pc8_of, pc8_of, pc8_of]
  have e : ∀ i, bt v i = (nat v).testBit i := fun i => rfl
  simp only [cwc, e]
  refine congrArg (fun z => some (Int32.ofNat z)) ?_
  simp only [Nat.reduceAdd, Nat.zero_add]
  omega
end COUNT
