/-! numbers and bits for plan -/
section PLANW
theorem l_le {a b : Nat} (ha : a < 9223372036854775808) (hb : b < 9223372036854775808) : Int64.ofNat a ≤ Int64.ofNat b ↔ a ≤ b := Int64.ofNat_le_iff_le ha hb
theorem l_lt {a b : Nat} (ha : a < 9223372036854775808) (hb : b < 9223372036854775808) : Int64.ofNat a < Int64.ofNat b ↔ a < b := Int64.ofNat_lt_iff_lt ha hb
theorem l_eq {a b : Nat} (ha : a < 9223372036854775808) (hb : b < 9223372036854775808) : Int64.ofNat a = Int64.ofNat b ↔ a = b := by
  refine ⟨fun h => ?_, fun h => by rw [h]⟩
  have := congrArg Int64.toNatClampNeg h
  rw [Int64.toNatClampNeg_ofNat_of_lt ha, Int64.toNatClampNeg_ofNat_of_lt hb] at this
  exact this
theorem l_cl {a : Nat} (ha : a < 9223372036854775808) : (Int64.ofNat a).toNatClampNeg = a := Int64.toNatClampNeg_ofNat_of_lt ha
theorem l_nm1 {a : Nat} (ha : a < 9223372036854775808) : ¬ Int64.ofNat a = -1 := by
  intro h
  have := congrArg Int64.toNatClampNeg h
  rw [l_cl ha] at this
  have h2 : (-1 : Int64).toNatClampNeg = 0 := rfl
  rw [h2] at this
  subst this
  exact absurd h (by decide)
theorem l_0le {a : Nat} (ha : a < 9223372036854775808) : (0 : Int64) ≤ Int64.ofNat a := (l_le (a := 0) (by decide) ha).mpr (Nat.zero_le a)
theorem l_nlt0 {a : Nat} (ha : a < 9223372036854775808) : ¬ Int64.ofNat a < 0 := fun h => by
  have := (l_lt (b := 0) ha (by omega)).mp h
  omega
theorem l_add (a b : Nat) : Int64.ofNat a + Int64.ofNat b = Int64.ofNat (a + b) := (Int64.ofNat_add a b).symm
theorem l_half {a : Nat} (ha : a < 9223372036854775808) : Int64.ofNat a / 2 = Int64.ofNat (a / 2) := (Int64.ofNat_div (b := 2) ha (by decide)).symm
theorem Kt_nat {S D : Nat → Int32} : ∀ n a b : Nat, ∃ x, x ≤ 1125899906842624 ∧ Kt S D n a b = Int64.ofNat x := by
  intro n
  induction n with
  | zero => intro a b; exact ⟨0, by omega, rfl⟩
  | succ n ih =>
    have hq : ∀ (p : Int32) (b : Nat), ∃ x, x ≤ 1125899906842624 ∧ kq (Kt S D n) p b = Int64.ofNat x := fun p b => by
      unfold kq
      by_cases h : p = -1
      · rw [if_pos h]; exact ⟨0, by omega, rfl⟩
      · rw [if_neg h]; exact ih _ _
    have hp : ∀ (p q : Int32), ∃ x, x ≤ 1125899906842624 ∧ kp (Kt S D n) p q = Int64.ofNat x := fun p q => by
      unfold kp
      by_cases h : q = -1
      · rw [if_pos h]; exact ⟨0, by omega, rfl⟩
      · rw [if_neg h]; exact hq _ _
    have hh : ∀ b, ∃ x, x ≤ 1125899906842624 ∧ (kq (Kt S D n) (S n) b + kq (Kt S D n) (D n) b) / 2 = Int64.ofNat x := fun b => by
      obtain ⟨x, x1, x2⟩ := hq (S n) b
      obtain ⟨y, y1, y2⟩ := hq (D n) b
      exact ⟨(x + y) / 2, by omega, by rw [x2, y2, l_add, l_half (by omega)]⟩
    have hd : ∃ x, x ≤ 1125899906842624 ∧ (kONE + kp (Kt S D n) (S n) (D n)) / 2 = Int64.ofNat x := by
      obtain ⟨x, x1, x2⟩ := hp (S n) (D n)
      refine ⟨(1125899906842624 + x) / 2, by omega, ?_⟩
      have e : kONE = Int64.ofNat 1125899906842624 := rfl
      rw [x2, e, l_add, l_half (by omega)]
    intro a b
    by_cases ha : a = n
    · by_cases hb : b = n
      · have e : Kt S D (n + 1) a b = (kONE + kp (Kt S D n) (S n) (D n)) / 2 := by simp only [Kt, if_pos ha, if_pos hb]
        rw [e]; exact hd
      · have e : Kt S D (n + 1) a b = (kq (Kt S D n) (S n) b + kq (Kt S D n) (D n) b) / 2 := by simp only [Kt, if_pos ha, if_neg hb]
        rw [e]; exact hh b
    · by_cases hb : b = n
      · have e : Kt S D (n + 1) a b = (kq (Kt S D n) (S n) a + kq (Kt S D n) (D n) a) / 2 := by simp only [Kt, if_neg ha, if_pos hb]
        rw [e]; exact hh a
      · have e : Kt S D (n + 1) a b = Kt S D n a b := by simp only [Kt, if_neg ha, if_neg hb]
        rw [e]; exact ih a b
theorem or_split {a c : Nat} (w u : Nat) (ha : a < 32) (hc : c < 32) : (w * 32 + a) ||| (u * 32 + c) = (w ||| u) * 32 + (a ||| c) := by
  have h1 : ((w * 32 + a) ||| (u * 32 + c)) % 2 ^ 5 = a ||| c := by
    rw [Nat.or_mod_two_pow]
    rw [show (w * 32 + a) % 2 ^ 5 = a by omega, show (u * 32 + c) % 2 ^ 5 = c by omega]
  have h2 : ((w * 32 + a) ||| (u * 32 + c)) / 2 ^ 5 = w ||| u := by
    rw [Nat.or_div_two_pow]
    rw [show (w * 32 + a) / 2 ^ 5 = w by omega, show (u * 32 + c) / 2 ^ 5 = u by omega]
  omega
theorem or_0 {a c : Nat} (h : a = 0 ∨ c = 0) : a ||| c = a + c := by
  rcases h with h | h
  · rw [h, Nat.zero_or, Nat.zero_add]
  · rw [h, Nat.or_zero, Nat.add_zero]
theorem c5_or {d e : Nat → Nat} (hd : ∀ i, i < 5 → d i < 32) (he : ∀ i, i < 5 → e i < 32) (h : ∀ i, i < 5 → d i = 0 ∨ e i = 0) : c5 d ||| c5 e = c5 d + c5 e := by
  unfold c5
  rw [or_split _ _ (hd 4 (by omega)) (he 4 (by omega)), or_split _ _ (hd 3 (by omega)) (he 3 (by omega)), or_split _ _ (hd 2 (by omega)) (he 2 (by omega)), or_split _ _ (hd 1 (by omega)) (he 1 (by omega)), or_0 (h 0 (by omega)), or_0 (h 1 (by omega)), or_0 (h 2 (by omega)), or_0 (h 3 (by omega)), or_0 (h 4 (by omega))]
  omega
theorem of_or (x y : Nat) : Int32.ofNat x ||| Int32.ofNat y = Int32.ofNat (x ||| y) := by
  refine Int32.toBitVec.inj ?_
  rw [Int32.toBitVec_or]
  show BitVec.ofNat 32 x ||| BitVec.ofNat 32 y = BitVec.ofNat 32 (x ||| y)
  refine BitVec.eq_of_toNat_eq ?_
  rw [BitVec.toNat_or, BitVec.toNat_ofNat, BitVec.toNat_ofNat, BitVec.toNat_ofNat, Nat.or_mod_two_pow]
theorem sh_code : ∀ b, b < 32 → ∀ j, j < 5 → Int32.ofNat b <<< (((5 : Int32) * ((4 : Int32) - Int32.ofNat j)) &&& 31) = Int32.ofNat (b * 32 ^ (4 - j)) := by decide +kernel
theorem bt_of (x : Nat) {k : Nat} (hk : k < 32) : bt (Int32.ofNat x) k = x.testBit k := by
  show (BitVec.ofNat 32 x).getLsbD k = _
  rw [BitVec.getLsbD_ofNat, decide_eq_true hk, Bool.true_and]
theorem bt_31 : ∀ k, k < 32 → bt 31 k = decide (k < 5) := by decide +kernel
theorem bt_shr {x : Int32} {k c : Nat} (hc : c + k < 32) : bt (x >>> (Int32.ofNat c &&& 31)) k = bt x (c + k) := by
  unfold bt
  rw [Int32.toBitVec_shiftRight]
  show (x.toBitVec.sshiftRight ((Int32.ofNat c &&& 31).toBitVec.smod 32).toNat).getLsbD k = _
  rw [smod_of c (by omega), BitVec.getLsbD_sshiftRight, if_pos hc, decide_eq_false (by omega)]
  rfl
theorem dig_of (x : Nat) {c : Nat} (hc : c ≤ 20) : (Int32.ofNat x >>> (Int32.ofNat c &&& 31)) &&& 31 = Int32.ofNat (x / 2 ^ c % 32) := by
  refine bt_ext (fun k hk => ?_)
  rw [bt_and, bt_31 k hk, bt_of _ hk]
  by_cases h5 : k < 5
  · rw [bt_shr (by omega), bt_of _ (by omega), show (32 : Nat) = 2 ^ 5 from rfl, Nat.testBit_mod_two_pow, Nat.testBit_div_two_pow, decide_eq_true h5, Bool.and_true, Bool.true_and, Nat.add_comm]
  · rw [show (32 : Nat) = 2 ^ 5 from rfl, Nat.testBit_mod_two_pow, decide_eq_false h5, Bool.and_false, Bool.false_and]
theorem sh_of : ∀ j, j < 5 → (((5 : Int32) * ((4 : Int32) - Int32.ofNat j)) &&& 31) = Int32.ofNat (5 * (4 - j)) &&& 31 := by decide +kernel
theorem c5_dig {d : Nat → Nat} (hd : ∀ i, i < 5 → d i < 32) : ∀ j, j < 5 → c5 d / 2 ^ (5 * (4 - j)) % 32 = d j := by
  have h0 := hd 0 (by omega)
  have h1 := hd 1 (by omega)
  have h2 := hd 2 (by omega)
  have h3 := hd 3 (by omega)
  have h4 := hd 4 (by omega)
  unfold c5
  refine lt5 ?_ ?_ ?_ ?_ ?_
  · show _ / 1048576 % 32 = _
    omega
  · show _ / 32768 % 32 = _
    omega
  · show _ / 1024 % 32 = _
    omega
  · show _ / 32 % 32 = _
    omega
  · show _ / 1 % 32 = _
    omega
theorem code_dig {d : Nat → Nat} (hd : ∀ i, i < 5 → d i < 32) {j : Nat} (hj : j < 5) : (Int32.ofNat (c5 d) >>> (((5 : Int32) * ((4 : Int32) - Int32.ofNat j)) &&& 31)) &&& 31 = Int32.ofNat (d j) := by
  rw [sh_of j hj, dig_of _ (by omega), c5_dig hd j hj]
theorem bitCount5 (M : Me) : ∀ p, p < 32 → J_bitCount M (Int32.ofNat p) = some (Int32.ofNat (pc p)) := by
  unfold J_bitCount
  decide +kernel
theorem sub_of : ∀ s, s < 32 → ∀ p, p < 32 → ((Int32.ofNat p &&& (Int32.ofNat s ^^^ -1) = 0) ↔ (∀ i, i < 5 → p.testBit i = true → s.testBit i = true)) := by decide +kernel
theorem dfs_of : ∀ s, s < 32 → ∀ p, p < 32 → Int32.ofNat s &&& (Int32.ofNat p ^^^ -1) = Int32.ofNat (dfs s p) := by decide +kernel
theorem all_of : ∀ m, m < 6 → ((1 : Int32) <<< (Int32.ofNat m &&& 31)) - 1 = Int32.ofNat (2 ^ m - 1) := by decide +kernel
theorem tb_of (p : Nat) {i : Nat} (hi : i < 32) : ((Int32.ofNat p >>> (Int32.ofNat i &&& 31)) &&& 1 = 0) ↔ p.testBit i = false := by rw [tst0 hi, bt_of p hi]
theorem tb_hi : ∀ m, m < 6 → ∀ s, s < 2 ^ m → ∀ i, i < 5 → s.testBit i = true → i < m := by decide +kernel
theorem dfs_lo : ∀ s, s < 32 → ∀ p, p < 32 → (∀ i, i < 5 → p.testBit i = true → s.testBit i = true) → ¬ p = 0 → dfs s p < s := by decide +kernel
end PLANW
