/-! the reference's fill -/
section FILL
variable {n a : Nat} {S D : Nat → Int32}
def Fr (M M' : Me) : Prop := M'.1 = M.1 ∧ M'.2.2 = M.2.2 ∧ ∀ x, ¬ x = 4 → ¬ x = 5 → M'.2.1 x = M.2.1 x
theorem Fr_tr {M M' M'' : Me} (h : Fr M M') (h' : Fr M' M'') : Fr M M'' := ⟨h'.1.trans h.1, h'.2.1.trans h.2.1, fun x h4 h5 => (h'.2.2 x h4 h5).trans (h.2.2 x h4 h5)⟩
theorem sL_at (M : Me) (b : Nat) {k : Nat} (hk : k < 2147483648) (x : Int64) (j : Nat) : (sL M b (Int32.ofNat k) x).2.1 b j = if j = k then x else M.2.1 b j := by
  unfold sL
  rw [uL_self, of_cl hk]
  rfl
theorem sL_ne (M : Me) {b c : Nat} (i : Int32) (x : Int64) (h : ¬ c = b) : (sL M b i x).2.1 c = M.2.1 c := if_neg h
theorem kpM {M : Me} {T : Nat → Nat → Int64} (ha : a ≤ 24) (hT : ∀ i j, i < a → j < a → M.2.1 4 (24 * i + j) = T i j) {p q : Int32} (hp : par p a) (hq : par q a) : M_kinOf M p q = some (kp T p q) := by
  unfold M_kinOf kp kq
  rcases hp with hp | ⟨k, hk, hp⟩
  · rw [if_pos hp, ite_self, if_pos (by rw [hp]; decide)]
  · have hpn : ¬ p = -1 := by rw [hp]; exact of_nm1 (by omega)
    rw [if_neg hpn, if_neg (by rw [hp]; exact of_nlt0 (by omega))]
    rcases hq with hq | ⟨l, hl, hq⟩
    · rw [if_pos hq, if_neg (by rw [hq]; decide)]
    · have hqn : ¬ q = -1 := by rw [hq]; exact of_nm1 (by omega)
      rw [if_neg hqn, if_pos (by rw [hq]; exact of_0le (by omega)), hp, hq, ix24, gd_in (by omega) (by omega), gL_of M 4 (by omega), hT k l hk hl, of_cl (by omega), of_cl (by omega)]
theorem kp_row {j : Nat} (hj : j < 2147483648) (q : Int32) : kp (Kt S D n) (Int32.ofNat j) q = kq (Kt S D n) q j := by
  rw [kq_symm]
  unfold kp kq
  rw [if_neg (of_nm1 hj), of_cl hj]
theorem kp_to {p q : Int32} {i : Nat} (hp : par p i) (hq : par q i) (hi : i ≤ n) (hn : n ≤ 24) : kp (Kt S D n) p q = kp (Kt S D i) p q := by
  unfold kp kq
  rcases hp with hp | ⟨k, hk, hp⟩
  · rw [if_pos hp, if_pos hp]
  · rcases hq with hq | ⟨l, hl, hq⟩
    · rw [if_pos hq, if_pos hq]
    · rw [hp, hq, of_cl (by omega), of_cl (by omega), Kt_to hk hl hi]
theorem fillL {i : Nat} (rec2 : Int32 → Me → Option Me) (hi : i < 24) (hs : par (S i) i) (hd : par (D i) i) : ∀ (e j F : Nat) (M : Me), j + e = i → e < F → M.1 12 = S → M.1 13 = D → (∀ x y, x < i → y < i → M.2.1 4 (24 * x + y) = Kt S D i x y) → (∀ y, y < j → M.2.1 4 (24 * i + y) = (kq (Kt S D i) (S i) y + kq (Kt S D i) (D i) y) / 2 ∧ M.2.1 4 (24 * y + i) = (kq (Kt S D i) (S i) y + kq (Kt S D i) (D i) y) / 2) → ∃ M' : Me, M_fill_L12 rec2 F (Int32.ofNat i) (Int32.ofNat j) M = rec2 (Int32.ofNat (i + 1)) M' ∧ Fr M M' ∧ M'.2.1 5 = vp_updL (M.2.1 5) i (kp (Kt S D i) (S i) (D i)) ∧ ∀ x y, x < i + 1 → y < i + 1 → M'.2.1 4 (24 * x + y) = Kt S D (i + 1) x y := by
  intro e
  induction e with
  | zero =>
    intro j F M hj hF h12 h13 hT hr
    obtain ⟨F, rfl⟩ := succ_of hF
    have hj2 : j = i := by omega
    subst hj2
    have e1 : M_fill_L12 rec2 (F + 1) (Int32.ofNat j) (Int32.ofNat j) M = rec2 (Int32.ofNat (j + 1)) (sL (sL M 5 (Int32.ofNat j) (kp (Kt S D j) (S j) (D j))) 4 (Int32.ofNat (24 * j + j)) ((1125899906842624 + kp (Kt S D j) (S j) (D j)) / 2)) := by
      show M_fill_b12 _ _ _ _ _ = _
      unfold M_fill_b12
      rw [if_pos (Int32.le_refl _), gd_in (by omega) (by omega), gd_in (by omega) (by omega), gI_of M 12 (by omega), gI_of M 13 (by omega), h12, h13, kpM (by omega) hT hs hd, Option.bind_some, gd_in (by omega) (by omega), gd_in (by omega) (by omega), ix24, gd_in (by omega) (by omega), gL_sL, of_s]
    refine ⟨_, e1, ⟨rfl, rfl, fun x h4 h5 => ?_⟩, ?_, fun x y hx hy => ?_⟩
    · rw [sL_ne _ _ _ h4, sL_ne _ _ _ h5]
    · rw [sL_ne _ _ _ (by decide)]
      unfold sL
      rw [uL_self, of_cl (by omega)]
    · rw [sL_at _ _ (by omega), sL_ne _ _ _ (by decide)]
      by_cases hxj : x = j
      · subst hxj
        by_cases hyx : y = x
        · subst hyx
          rw [if_pos rfl, Kt_diag]
          rfl
        · rw [if_neg (by omega), (hr y (by omega)).1, Kt_row (by omega)]
      · rw [if_neg (by omega)]
        by_cases hyj : y = j
        · subst hyj
          rw [(hr x (by omega)).2, Kt_col (by omega)]
        · rw [hT x y (by omega) (by omega), Kt_step (by omega) (by omega)]
  | succ e ih =>
    intro j F M hj hF h12 h13 hT hr
    obtain ⟨F, rfl⟩ := succ_of hF
    have hpj : par (Int32.ofNat j) i := Or.inr ⟨j, by omega, rfl⟩
    have e1 : M_fill_L12 rec2 (F + 1) (Int32.ofNat i) (Int32.ofNat j) M = M_fill_L12 rec2 F (Int32.ofNat i) (Int32.ofNat (j + 1)) (sL (sL M 4 (Int32.ofNat (24 * i + j)) ((kq (Kt S D i) (S i) j + kq (Kt S D i) (D i) j) / 2)) 4 (Int32.ofNat (24 * j + i)) ((kq (Kt S D i) (S i) j + kq (Kt S D i) (D i) j) / 2)) := by
      show M_fill_b12 _ _ _ _ _ = _
      unfold M_fill_b12
      rw [if_neg (by rw [of_le (by omega) (by omega)]; omega), gd_in (by omega) (by omega), gI_of M 12 (by omega), h12, kpM (by omega) hT hpj hs, Option.bind_some, gd_in (by omega) (by omega), gI_of M 13 (by omega), h13, kpM (by omega) hT hpj hd, Option.bind_some, ix24, ix24, gd_in (by omega) (by omega), gd_in (by omega) (by omega), kp_row (by omega), kp_row (by omega), of_s]
    obtain ⟨M', q1, q2, q3, q4⟩ := ih (j + 1) F (sL (sL M 4 (Int32.ofNat (24 * i + j)) ((kq (Kt S D i) (S i) j + kq (Kt S D i) (D i) j) / 2)) 4 (Int32.ofNat (24 * j + i)) ((kq (Kt S D i) (S i) j + kq (Kt S D i) (D i) j) / 2)) (by omega) (by omega) h12 h13 (fun x y hx hy => by
        rw [sL_at _ _ (by omega), if_neg (by omega), sL_at _ _ (by omega), if_neg (by omega)]
        exact hT x y hx hy) (fun y hy => by
        by_cases hyj : y = j
        · subst hyj
          refine ⟨?_, ?_⟩
          · rw [sL_at _ _ (by omega), if_neg (by omega), sL_at _ _ (by omega), if_pos rfl]
          · rw [sL_at _ _ (by omega), if_pos rfl]
        · refine ⟨?_, ?_⟩
          · rw [sL_at _ _ (by omega), if_neg (by omega), sL_at _ _ (by omega), if_neg (by omega)]
            exact (hr y (by omega)).1
          · rw [sL_at _ _ (by omega), if_neg (by omega), sL_at _ _ (by omega), if_neg (by omega)]
            exact (hr y (by omega)).2)
    have f1 : Fr M (sL (sL M 4 (Int32.ofNat (24 * i + j)) ((kq (Kt S D i) (S i) j + kq (Kt S D i) (D i) j) / 2)) 4 (Int32.ofNat (24 * j + i)) ((kq (Kt S D i) (S i) j + kq (Kt S D i) (D i) j) / 2)) := ⟨rfl, rfl, fun x h4 h5 => by rw [sL_ne _ _ _ h4, sL_ne _ _ _ h4]⟩
    refine ⟨M', e1.trans q1, Fr_tr f1 q2, ?_, q4⟩
    · rw [q3, sL_ne _ _ _ (by decide), sL_ne _ _ _ (by decide)]
theorem fillO (hn : n ≤ 24) (hp : PR S D n) : ∀ (e i F : Nat) (M : Me), i + e = n → e < F → M.1 12 = S → M.1 13 = D → gF M 5 = Int32.ofNat n → (∀ x y, x < i → y < i → M.2.1 4 (24 * x + y) = Kt S D i x y) → (∀ x, x < i → M.2.1 5 x = kp (Kt S D n) (S x) (D x)) → ∃ M' : Me, M_fill_L2 F (Int32.ofNat i) M = some M' ∧ Fr M M' ∧ (∀ x y, x < n → y < n → M'.2.1 4 (24 * x + y) = Kt S D n x y) ∧ ∀ x, x < n → M'.2.1 5 x = kp (Kt S D n) (S x) (D x) := by
  intro e
  induction e with
  | zero =>
    intro i F M hi hF h12 h13 hc hT h5
    obtain ⟨F, rfl⟩ := succ_of hF
    have hi2 : i = n := by omega
    subst hi2
    refine ⟨M, ?_, ⟨rfl, rfl, fun _ _ _ => rfl⟩, hT, h5⟩
    show M_fill_b2 _ _ _ = _
    unfold M_fill_b2
    rw [hc, if_pos (Int32.le_refl _)]
  | succ e ih =>
    intro i F M hi hF h12 h13 hc hT h5
    obtain ⟨F, rfl⟩ := succ_of hF
    obtain ⟨M1, q1, q2, q3, q4⟩ := fillL (M_fill_L2 F) (show i < 24 by omega) (hp i (by omega)).1 (hp i (by omega)).2 i 0 64 M (by omega) (by omega) h12 h13 hT (fun y hy => absurd hy (by omega))
    obtain ⟨M2, r1, r2, r3, r4⟩ := ih (i + 1) F M1 (by omega) (by omega) (by rw [q2.1]; exact h12) (by rw [q2.1]; exact h13) (by unfold gF; rw [q2.2.1]; exact hc) q4 (fun x hx => by
        rw [q3]
        show (if x = i then _ else M.2.1 5 x) = _
        by_cases hxi : x = i
        · subst hxi
          rw [if_pos rfl, kp_to (hp x (by omega)).1 (hp x (by omega)).2 (by omega) hn]
        · rw [if_neg hxi]
          exact h5 x (by omega))
    refine ⟨M2, ?_, Fr_tr q2 r2, r3, r4⟩
    rw [← r1, ← q1]
    show M_fill_b2 _ _ _ = _
    unfold M_fill_b2
    rw [hc, if_neg (by rw [of_le (by omega) (by omega)]; omega)]
    rfl
theorem fillM {M : Me} (hn : n ≤ 24) (hp : PR (M.1 12) (M.1 13) n) (hc : M.2.2.1 5 = Int32.ofNat n) : ∃ M' : Me, M_fill M = some M' ∧ Fr M M' ∧ (∀ x y, x < n → y < n → M'.2.1 4 (24 * x + y) = Kt (M.1 12) (M.1 13) n x y) ∧ ∀ x, x < n → M'.2.1 5 x = kp (Kt (M.1 12) (M.1 13) n) (M.1 12 x) (M.1 13 x) := by
  obtain ⟨M', q1, q2⟩ := fillO hn hp n 0 64 M (by omega) (by omega) rfl rfl hc (fun x y hx => absurd hx (by omega)) (fun x hx => absurd hx (by omega))
  exact ⟨M', q1, q2⟩
theorem PR_ext {S' D' : Nat → Int32} (h : ∀ i, i < n → S' i = S i ∧ D' i = D i) (hp : PR S D n) : PR S' D' n := fun i hi => by
  rw [(h i hi).1, (h i hi).2]
  exact hp i hi
/-- what both keep, out of its parts -/
theorem Inv_mk {M : Me} (hB : IB M n) (hA : IA M n) (hP : IP M n) (hL : IL M n) (k1 : ∀ i j, i < n → j < n → M.2.1 (8 + i) j = Kt (M.1 0) (M.1 1) n i j) (k2 : ∀ i j, i < n → j < n → M.2.1 4 (24 * i + j) = Kt (M.1 12) (M.1 13) n i j) (l0 : ∀ i, i < n → M.2.1 0 i = kp (Kt (M.1 0) (M.1 1) n) (M.1 0 i) (M.1 1 i)) (l5 : ∀ i, i < n → M.2.1 5 i = kp (Kt (M.1 12) (M.1 13) n) (M.1 12 i) (M.1 13 i)) (hD : ID M n) (hJ : IJ M n) : Inv M n := by
  have e : Kt (M.1 12) (M.1 13) n = Kt (M.1 0) (M.1 1) n := Kt_ext n (fun i hi => ⟨(hA i hi).1, (hA i hi).2.1⟩)
  refine ⟨hB, hA, hP, hL, fun i j hi hj => ⟨k1 i j hi hj, ?_⟩, fun i hi => ⟨l0 i hi, ?_⟩, hD, hJ⟩
  · rw [← e]; exact k2 i j hi hj
  · rw [l5 i hi, e, (hA i hi).1, (hA i hi).2.1]
theorem par_mono {p : Int32} {i j : Nat} (h : par p i) (hij : i ≤ j) : par p j := by
  rcases h with h | ⟨k, hk, h⟩
  · exact Or.inl h
  · exact Or.inr ⟨k, by omega, h⟩
theorem dstep_ext {S' D' : Nat → Int32} {i : Nat} (h1 : S i = S' i) (h2 : D i = D' i) (T : Nat → Int32) : dstep S D T i = dstep S' D' T i := by
  unfold dstep
  rw [h1, h2]
theorem fstep_ext {S' D' : Nat → Int32} {i : Nat} (h1 : S i = S' i) (h2 : D i = D' i) (T : Nat → Int32) : fstep S D T i = fstep S' D' T i := by
  unfold fstep
  rw [h1, h2]
/-! enter -/
theorem orNone_ok {M : Me} (h : IB M n) {p : Int32} (hp : par p n) : H_requireAnimalOrNone M p = some (.ok ()) := by
  unfold H_requireAnimalOrNone
  rcases hp with hp | ⟨k, hk, hp⟩
  · rw [if_pos hp]
  · have hn := h.1
    rw [hp, if_neg (of_nm1 (by omega)), reqA_ok h hk]
    rfl
theorem orNone_no {M : Me} (h : IB M n) {p : Int32} (hp : ¬ p = -1) (hv : p < 0 ∨ (¬ p < 0 ∧ Int32.ofNat n ≤ p)) : H_requireAnimalOrNone M p = some (.error "java/util/NoSuchElementException") := by
  unfold H_requireAnimalOrNone
  rw [if_neg hp, reqA_no h hv]
  rfl
theorem isParent_ok {M : Me} (h : IB M n) {p : Int32} (hp : par p n) : M_isParent M p = some 1 := by
  unfold M_isParent
  rcases hp with hp | ⟨k, hk, hp⟩
  · rw [if_pos hp]
  · have hn := h.1
    rw [hp, if_neg (of_nm1 (by omega)), is_ok h hk]
    rfl
theorem isParent_no {M : Me} (h : IB M n) {p : Int32} (hp : ¬ p = -1) (hv : p < 0 ∨ (¬ p < 0 ∧ Int32.ofNat n ≤ p)) : M_isParent M p = some 0 := by
  unfold M_isParent
  rw [if_neg hp, is_no h hv]
  rfl
theorem par_cases (n : Nat) (hn : n ≤ 24) (p : Int32) : par p n ∨ (¬ p = -1 ∧ (p < 0 ∨ (¬ p < 0 ∧ Int32.ofNat n ≤ p))) := by
  by_cases h : p = -1
  · exact Or.inl (Or.inl h)
  · rcases isA_cases n hn p with ⟨k, hk, hp⟩ | hv
    · exact Or.inl (Or.inr ⟨k, hk, hp⟩)
    · exact Or.inr ⟨h, hv⟩
def qf (M : Me) (p sx y : Int32) : Int32 := if p = -1 then 1 else if M.1 5 p.toNatClampNeg = sx then (if y ≤ M.1 6 p.toNatClampNeg then 0 else 1) else 0
theorem isFit_v {M : Me} (hn : n ≤ 24) {p : Int32} (hp : par p n) (sx y : Int32) : H_isFitParent M p sx y = some (qf M p sx y) := by
  unfold H_isFitParent qf
  rcases hp with hp | ⟨k, hk, hp⟩
  · rw [if_pos hp, if_pos hp]
  · have hpn : ¬ p = -1 := by rw [hp]; exact of_nm1 (by omega)
    rw [if_neg hpn, if_neg hpn, hp, gd_in (by omega) (by omega), gd_in (by omega) (by omega), gI_of M 5 (by omega), gI_of M 6 (by omega), of_cl (by omega)]
    by_cases h1 : M.1 5 k = sx
    · rw [if_pos h1, if_pos h1]
      by_cases h2 : y ≤ M.1 6 k
      · rw [if_pos h2, if_pos h2]
      · rw [if_neg h2, if_neg h2]
    · rw [if_neg h1, if_neg h1]
theorem fits_v {M M' : Me} (hn : n ≤ 24) (e5 : ∀ i, i < n → M'.1 14 i = M.1 5 i) (e6 : ∀ i, i < n → M'.1 15 i = M.1 6 i) {p : Int32} (hp : par p n) (sx y b : Int32) : M_fits M' p sx y b = some (if p = -1 then 1 else if qf M p sx y = 0 then 0 else if b ≤ p then 0 else 1) := by
  unfold M_fits qf
  rcases hp with hp | ⟨k, hk, hp⟩
  · rw [if_pos (by rw [hp]; decide), if_pos hp]
  · have hpn : ¬ p = -1 := by rw [hp]; exact of_nm1 (by omega)
    rw [if_neg (by rw [hp]; exact of_nlt0 (by omega)), if_neg hpn, if_neg hpn, hp, gd_in (by omega) (by omega), gd_in (by omega) (by omega), gI_of M' 14 (by omega), gI_of M' 15 (by omega), of_cl (by omega), e5 k hk, e6 k hk]
    by_cases h1 : M.1 5 k = sx
    · rw [if_pos h1, if_pos h1]
      by_cases h2 : y ≤ M.1 6 k
      · rw [if_pos h2, if_pos h2, if_pos rfl]
      · rw [if_neg h2, if_neg h2, if_neg (show ¬ (1 : Int32) = 0 by decide)]
        by_cases h3 : b ≤ Int32.ofNat k
        · rw [if_pos h3, if_pos h3]
        · rw [if_neg h3, if_neg h3]
    · rw [if_neg h1, if_neg h1, if_pos rfl]
theorem reqFit {M : Me} (hn : n ≤ 24) {s d : Int32} (hs : par s n) (hd : par d n) (y : Int32) : H_requireFitParents M s d y = if qf M s 0 y = 0 then some (.error "java/lang/UnsupportedOperationException") else if qf M d 1 y = 0 then some (.error "java/lang/UnsupportedOperationException") else some (.ok ()) := by
  unfold H_requireFitParents
  rw [isFit_v hn hs, Option.bind_some, isFit_v hn hd, Option.bind_some]
end FILL
