/-! renew and fill: both tables are the one function of the parents -/
section RENEW
variable {n a : Nat} {S D : Nat → Int32}
theorem sR_at (M : Me) {r c : Nat} (hr : r < 2147483648) (hc : c < 2147483648) (x : Int64) (i j : Nat) : (sR M (Int32.ofNat r) (Int32.ofNat c) x).2.1 (8 + i) j = if i = r ∧ j = c then x else M.2.1 (8 + i) j := by
  unfold sR
  rw [of_cl hr, of_cl hc]
  show (if 8 + i = 8 + r then vp_updL (M.2.1 (8 + r)) c x else M.2.1 (8 + i)) j = _
  by_cases h : i = r
  · subst h
    rw [if_pos rfl]
    show (if j = c then x else M.2.1 (8 + i) j) = _
    by_cases hj : j = c
    · rw [if_pos hj, if_pos ⟨rfl, hj⟩]
    · rw [if_neg hj, if_neg (fun q => hj q.2)]
  · rw [if_neg (by omega), if_neg (fun q => h q.1)]
theorem sR_lo (M : Me) (r c : Int32) (x : Int64) {y : Nat} (hy : y < 8) : (sR M r c x).2.1 y = M.2.1 y := if_neg (by omega)
theorem gL_sL (M : Me) (b : Nat) (i : Int32) (x : Int64) : gL (sL M b i x) b i = x := by
  unfold gL sL
  rw [uL_self]
  exact if_pos rfl
theorem kp_of {T : Nat → Nat → Int64} {p : Int32} {b : Nat} (hb : b < 2147483648) : kp T p (Int32.ofNat b) = kq T p b := by
  unfold kp
  rw [if_neg (of_nm1 hb), of_cl hb]
theorem kpP {M : Me} {T : Nat → Nat → Int64} (ha : a ≤ 24) (hT : ∀ i j, i < a → j < a → M.2.1 (8 + i) j = T i j) {p q : Int32} (hp : par p a) (hq : par q a) : P_kinOf M p q = some (kp T p q) := by
  unfold P_kinOf kp kq
  rcases hp with hp | ⟨k, hk, hp⟩
  · rw [if_pos hp, if_pos hp, ite_self]
  · have hpn : ¬ p = -1 := by rw [hp]; exact of_nm1 (by omega)
    rw [if_neg hpn, if_neg hpn]
    rcases hq with hq | ⟨l, hl, hq⟩
    · rw [if_pos hq, if_pos hq]
    · have hqn : ¬ q = -1 := by rw [hq]; exact of_nm1 (by omega)
      rw [if_neg hqn, if_neg hqn, hp, hq, gd_in (by omega) (by omega), gd_in (by omega) (by omega), gR_of _ (by omega) (by omega), hT k l hk hl, of_cl (by omega), of_cl (by omega)]
theorem renewL (ha : a < 24) {T : Nat → Nat → Int64} {s d : Int32} (hs : par s a) (hd : par d a) : ∀ (e b F : Nat) (M : Me), b + e = a → e < F → (∀ i j, i < a → j < a → M.2.1 (8 + i) j = T i j) → (∀ j, j < b → M.2.1 (8 + a) j = (kq T s j + kq T d j) / 2 ∧ M.2.1 (8 + j) a = (kq T s j + kq T d j) / 2) → ∃ M' : Me, P_renew_L67 F (Int32.ofNat a) s d (Int32.ofNat b) M = some M' ∧ M'.1 = M.1 ∧ M'.2.2 = M.2.2 ∧ (∀ x, x < 8 → ¬ x = 0 → M'.2.1 x = M.2.1 x) ∧ M'.2.1 0 = vp_updL (M.2.1 0) a (kp T s d) ∧ (∀ i j, i < a → j < a → M'.2.1 (8 + i) j = T i j) ∧ (∀ j, j < a → M'.2.1 (8 + a) j = (kq T s j + kq T d j) / 2 ∧ M'.2.1 (8 + j) a = (kq T s j + kq T d j) / 2) ∧ M'.2.1 (8 + a) a = (kONE + kp T s d) / 2 := by
  intro e
  induction e with
  | zero =>
    intro b F M hb hF hT hr
    obtain ⟨F, rfl⟩ := succ_of hF
    have hb2 : b = a := by omega
    subst hb2
    have e1 : P_renew_L67 (F + 1) (Int32.ofNat b) s d (Int32.ofNat b) M = some (sR (sL M 0 (Int32.ofNat b) (kp T s d)) (Int32.ofNat b) (Int32.ofNat b) ((1125899906842624 + kp T s d) / 2)) := by
      show P_renew_b67 _ _ _ _ _ _ = _
      unfold P_renew_b67
      rw [if_pos (Int32.le_refl _), kpP (by omega) hT hs hd, Option.bind_some, gd_in (by omega) (by omega), gd_in (by omega) (by omega), gd_in (by omega) (by omega), gd_in (by omega) (by omega), gL_sL]
    have e2 : ∀ i j, (sL M 0 (Int32.ofNat b) (kp T s d)).2.1 (8 + i) j = M.2.1 (8 + i) j := fun i j => by
      have : (sL M 0 (Int32.ofNat b) (kp T s d)).2.1 (8 + i) = M.2.1 (8 + i) := if_neg (by omega)
      rw [this]
    refine ⟨_, e1, rfl, rfl, fun x hx h0 => ?_, ?_, fun i j hi hj => ?_, fun j hj => ⟨?_, ?_⟩, ?_⟩
    · rw [sR_lo _ _ _ _ hx]
      exact if_neg h0
    · rw [sR_lo _ _ _ _ (by omega)]
      unfold sL
      rw [uL_self, of_cl (by omega)]
    · rw [sR_at _ (by omega) (by omega), if_neg (by omega), e2]
      exact hT i j hi hj
    · rw [sR_at _ (by omega) (by omega), if_neg (by omega), e2]
      exact (hr j hj).1
    · rw [sR_at _ (by omega) (by omega), if_neg (by omega), e2]
      exact (hr j hj).2
    · rw [sR_at _ (by omega) (by omega), if_pos ⟨rfl, rfl⟩]
      rfl
  | succ e ih =>
    intro b F M hb hF hT hr
    obtain ⟨F, rfl⟩ := succ_of hF
    have hpb : par (Int32.ofNat b) a := Or.inr ⟨b, by omega, rfl⟩
    have e1 : P_renew_L67 (F + 1) (Int32.ofNat a) s d (Int32.ofNat b) M = P_renew_L67 F (Int32.ofNat a) s d (Int32.ofNat (b + 1)) (sR (sR M (Int32.ofNat a) (Int32.ofNat b) ((kq T s b + kq T d b) / 2)) (Int32.ofNat b) (Int32.ofNat a) ((kq T s b + kq T d b) / 2)) := by
      show P_renew_b67 _ _ _ _ _ _ = _
      unfold P_renew_b67
      rw [if_neg (by rw [of_le (by omega) (by omega)]; omega), kpP (by omega) hT hs hpb, Option.bind_some, kpP (by omega) hT hd hpb, Option.bind_some, gd_in (by omega) (by omega), gd_in (by omega) (by omega), gd_in (by omega) (by omega), gd_in (by omega) (by omega), kp_of (by omega), kp_of (by omega), of_s]
    obtain ⟨M', q1, q2, q3, q4, q5, q6, q7, q8⟩ := ih (b + 1) F (sR (sR M (Int32.ofNat a) (Int32.ofNat b) ((kq T s b + kq T d b) / 2)) (Int32.ofNat b) (Int32.ofNat a) ((kq T s b + kq T d b) / 2)) (by omega) (by omega) (fun i j hi hj => by
        rw [sR_at _ (by omega) (by omega), if_neg (by omega), sR_at _ (by omega) (by omega), if_neg (by omega)]
        exact hT i j hi hj) (fun j hj => by
        by_cases hjb : j = b
        · subst hjb
          refine ⟨?_, ?_⟩
          · rw [sR_at _ (by omega) (by omega), if_neg (by omega), sR_at _ (by omega) (by omega), if_pos ⟨rfl, rfl⟩]
          · rw [sR_at _ (by omega) (by omega), if_pos ⟨rfl, rfl⟩]
        · refine ⟨?_, ?_⟩
          · rw [sR_at _ (by omega) (by omega), if_neg (by omega), sR_at _ (by omega) (by omega), if_neg (by omega)]
            exact (hr j (by omega)).1
          · rw [sR_at _ (by omega) (by omega), if_neg (by omega), sR_at _ (by omega) (by omega), if_neg (by omega)]
            exact (hr j (by omega)).2)
    refine ⟨M', e1.trans q1, q2, q3, fun x hx h0 => ?_, ?_, q6, q7, q8⟩
    · rw [q4 x hx h0, sR_lo _ _ _ _ hx, sR_lo _ _ _ _ hx]
    · rw [q5, sR_lo _ _ _ _ (by omega), sR_lo _ _ _ _ (by omega)]
theorem dqP {M : Me} {T : Nat → Int32} (ha : a ≤ 24) (hT : ∀ i, i < a → M.1 2 i = T i) {p : Int32} (hp : par p a) : P_depthOrZero M p = some (dq T p) := by
  unfold P_depthOrZero dq
  rcases hp with hp | ⟨k, hk, hp⟩
  · rw [if_pos hp, if_pos hp]
  · rw [if_neg (by rw [hp]; exact of_nm1 (by omega)), if_neg (by rw [hp]; exact of_nm1 (by omega)), hp, gd_in (by omega) (by omega), gI_of _ _ (by omega), hT k hk, of_cl (by omega)]
theorem fqP {M : Me} {T : Nat → Int32} (ha : a ≤ 24) (hT : ∀ i, i < a → M.1 3 i = T i) {p : Int32} (hp : par p a) : P_withForebears M p = some (fq T p) := by
  unfold P_withForebears fq
  rcases hp with hp | ⟨k, hk, hp⟩
  · rw [if_pos hp, if_pos hp]
  · rw [if_neg (by rw [hp]; exact of_nm1 (by omega)), if_neg (by rw [hp]; exact of_nm1 (by omega)), hp, gd_in (by omega) (by omega), gI_of _ _ (by omega), hT k hk, of_cl (by omega)]
/-- what renew leaves behind -/
def Rn (M M' : Me) (a : Nat) : Prop := (∀ x, ¬ x = 2 → ¬ x = 3 → M'.1 x = M.1 x) ∧ M'.1 2 = upd (M.1 2) a (Tb (dstep (M.1 0) (M.1 1)) 0 (a + 1) a) ∧ M'.1 3 = upd (M.1 3) a (Tb (fstep (M.1 0) (M.1 1)) 0 (a + 1) a) ∧ M'.2.2 = M.2.2 ∧ (∀ x, x < 8 → ¬ x = 0 → M'.2.1 x = M.2.1 x) ∧ M'.2.1 0 = vp_updL (M.2.1 0) a (kp (Kt (M.1 0) (M.1 1) a) (M.1 0 a) (M.1 1 a)) ∧ ∀ i j, i < a + 1 → j < a + 1 → M'.2.1 (8 + i) j = Kt (M.1 0) (M.1 1) (a + 1) i j
theorem renew_c {M : Me} (ha : a < 24) {x : Int32} (hs : par (M.1 0 a) a) (hd : par (M.1 1 a) a) (hT : ∀ i j, i < a → j < a → M.2.1 (8 + i) j = Kt (M.1 0) (M.1 1) a i j) (hF : ∀ i, i < a → M.1 3 i = Tb (fstep (M.1 0) (M.1 1)) 0 a i) (hx : x = Tb (dstep (M.1 0) (M.1 1)) 0 (a + 1) a) : ∃ M' : Me, P_renew_c46 (Int32.ofNat a) (M.1 0 a) (M.1 1 a) x (Int32.ofNat a) M = some M' ∧ Rn M M' a := by
  have hF1 : ∀ i, i < a → (sI M 2 (Int32.ofNat a) x).1 3 i = Tb (fstep (M.1 0) (M.1 1)) 0 a i := hF
  have e0 : P_renew_c46 (Int32.ofNat a) (M.1 0 a) (M.1 1 a) x (Int32.ofNat a) M = P_renew_L67 64 (Int32.ofNat a) (M.1 0 a) (M.1 1 a) (Int32.ofNat 0) (sI (sI M 2 (Int32.ofNat a) x) 3 (Int32.ofNat a) (fq (Tb (fstep (M.1 0) (M.1 1)) 0 a) (M.1 0 a) ||| fq (Tb (fstep (M.1 0) (M.1 1)) 0 a) (M.1 1 a))) := by
    unfold P_renew_c46
    rw [gd_in (by omega) (by omega), fqP (by omega) hF1 hs, Option.bind_some, fqP (by omega) hF1 hd, Option.bind_some, gd_in (by omega) (by omega)]
    rfl
  obtain ⟨M', q1, q2, q3, q4, q5, q6, q7, q8⟩ := renewL ha hs hd a 0 64 (sI (sI M 2 (Int32.ofNat a) x) 3 (Int32.ofNat a) (fq (Tb (fstep (M.1 0) (M.1 1)) 0 a) (M.1 0 a) ||| fq (Tb (fstep (M.1 0) (M.1 1)) 0 a) (M.1 1 a))) (by omega) (by omega) hT (fun j hj => absurd hj (by omega))
  refine ⟨M', e0.trans q1, fun y h2 h3 => ?_, ?_, ?_, q3, q4, q5, fun i j hi hj => ?_⟩
  · rw [q2]
    show (if y = 3 then _ else if y = 2 then _ else M.1 y) = _
    rw [if_neg h3, if_neg h2]
  · rw [q2, ← hx]
    show upd (M.1 2) (Int32.ofNat a).toNatClampNeg x = _
    rw [of_cl (by omega)]
  · rw [q2, Tb_at]
    show upd (M.1 3) (Int32.ofNat a).toNatClampNeg _ = _
    rw [of_cl (by omega)]
    rfl
  · by_cases hia : i = a
    · subst hia
      by_cases hja : j = i
      · subst hja
        rw [q8, Kt_diag]
      · rw [(q7 j (by omega)).1, Kt_row (by omega)]
    · by_cases hja : j = a
      · subst hja
        rw [(q7 i (by omega)).2, Kt_col (by omega)]
      · rw [q6 i j (by omega) (by omega), Kt_step (by omega) (by omega)]
theorem renew {M : Me} (ha : a < 24) (hs : par (M.1 0 a) a) (hd : par (M.1 1 a) a) (hT : ∀ i j, i < a → j < a → M.2.1 (8 + i) j = Kt (M.1 0) (M.1 1) a i j) (hE : ∀ i, i < a → M.1 2 i = Tb (dstep (M.1 0) (M.1 1)) 0 a i) (hF : ∀ i, i < a → M.1 3 i = Tb (fstep (M.1 0) (M.1 1)) 0 a i) : ∃ M' : Me, P_renew M (Int32.ofNat a) = some M' ∧ Rn M M' a := by
  unfold P_renew P_isFounder
  rw [gd_in (by omega) (by omega), gd_in (by omega) (by omega), gd_in (by omega) (by omega), gI_of M 0 (by omega), gI_of M 1 (by omega)]
  have k : ¬ (M.1 0 a = -1 ∧ M.1 1 a = -1) → ∃ M' : Me, (Option.bind (P_depthOrZero M (M.1 0 a)) (fun r7 => Option.bind (P_depthOrZero M (M.1 1 a)) (fun r9 => P_renew_c46 (Int32.ofNat a) (M.1 0 a) (M.1 1 a) ((1 : Int32) + (if r7 < r9 then r9 else r7)) (Int32.ofNat a) M))) = some M' ∧ Rn M M' a := fun hno => by
    rw [dqP (by omega) hE hs, Option.bind_some, dqP (by omega) hE hd, Option.bind_some]
    refine renew_c ha hs hd hT hF ?_
    rw [Tb_at]
    unfold dstep
    rw [if_neg hno]
  by_cases h0 : M.1 0 a = -1
  · rw [if_pos h0, gd_in (by omega) (by omega)]
    by_cases h1 : M.1 1 a = -1
    · rw [if_pos h1, Option.bind_some, if_neg (by decide)]
      refine renew_c ha hs hd hT hF ?_
      rw [Tb_at]
      unfold dstep
      rw [if_pos ⟨h0, h1⟩]
    · rw [if_neg h1, Option.bind_some, if_pos rfl]
      exact k (fun q => h1 q.2)
  · rw [if_neg h0, Option.bind_some, if_pos rfl]
    exact k (fun q => h0 q.1)
end RENEW
