/-! one bull more: improve, offer -/
section OFFER
variable {m n : Nat} {cw : Nat → Nat} {l mo : Nat} {kn : Nat → Nat → Nat} {bl : Nat → Bool} {b : Nat}
theorem OP_bd {A : (Nat → Nat) → Prop} {s : Nat} {o : Option (Nat × Nat)} (hk : ∀ i b, kn i b ≤ 1125899906842624) (hc : ∀ f, A f → cd s f < 33554432) (h : OP kn A s o) : ∀ q, o = some q → q.1 ≤ 5629499534213120 ∧ q.2 < 33554432 := by
  intro q e
  subst e
  obtain ⟨f, h1, h2, h3, -⟩ := h
  rw [h2, h3]
  exact ⟨sk_le hk, hc f h1⟩
theorem part_iff {s p : Nat} {f : Nat → Nat} : (FE kn bl mo l (b + 1) s f ∧ mask s f b < p + 1) ↔ ((FE kn bl mo l (b + 1) s f ∧ mask s f b < p) ∨ (FE kn bl mo l (b + 1) s f ∧ mask s f b = p)) := by
  refine ⟨fun h => ?_, fun h => ?_⟩
  · by_cases q : mask s f b = p
    · exact Or.inr ⟨h.1, q⟩
    · exact Or.inl ⟨h.1, by omega⟩
  · rcases h with h | h
    · exact ⟨h.1, by omega⟩
    · exact ⟨h.1, by omega⟩
theorem CL_skip {M : Me} {s p : Nat} (h : CL kn M (fun f => FE kn bl mo l (b + 1) s f ∧ mask s f b < p) s) (q : ∀ f, ¬ (FE kn bl mo l (b + 1) s f ∧ mask s f b = p)) : CL kn M (fun f => FE kn bl mo l (b + 1) s f ∧ mask s f b < p + 1) s := CL_congr (fun f => ⟨fun w => part_iff.mpr (Or.inl w), fun w => (part_iff.mp w).elim id (fun z => absurd z (q f))⟩) h
theorem improveL (hb : b < n) (hbl : bl b = true) {s : Nat} : ∀ (e p F : Nat) (M : Me), CX M m n cw l mo kn → s < 2 ^ m → p + e = s + 1 → 1 ≤ p → e < F → (∀ q, q < 2 ^ m → SC kn mo l b q (M.2.1 3 q) (M.1 11 q)) → (∀ t, t < s → CL kn M (FE kn bl mo l b t) t) → CL kn M (fun f => FE kn bl mo l (b + 1) s f ∧ mask s f b < p) s → ∃ M' : Me, B_improve_L2 F (Int32.ofNat s) (Int32.ofNat p) M = some M' ∧ FrB M M' ∧ M'.2.1 3 = M.2.1 3 ∧ M'.1 11 = M.1 11 ∧ (∀ t, ¬ t = s → M'.2.1 2 t = M.2.1 2 t ∧ M'.1 10 t = M.1 10 t) ∧ CL kn M' (FE kn bl mo l (b + 1) s) s := by
  intro e
  induction e with
  | zero =>
    intro p F M c hs hp h1 hF hsc hlow hcl
    have h32 := two_le c.hm
    obtain ⟨F, rfl⟩ := succ_of hF
    refine ⟨M, ?_, FrB_rf M, rfl, rfl, fun _ _ => ⟨rfl, rfl⟩, CL_congr (fun f => ⟨fun w => w.1, fun w => ⟨w, ?_⟩⟩) hcl⟩
    · show B_improve_b2 _ _ _ _ = _
      unfold B_improve_b2
      rw [if_pos (by rw [of_lt (by omega) (by omega)]; omega)]
    · have := mask_le (b := b) (f := f) (show s < 32 by omega)
      omega
  | succ e ih =>
    intro p F M c hs hp h1 hF hsc hlow hcl
    have hm := c.hm
    have hn := c.hn
    have h32 := two_le c.hm
    obtain ⟨F, rfl⟩ := succ_of hF
    have skip : (∀ f, ¬ (FE kn bl mo l (b + 1) s f ∧ mask s f b = p)) → B_improve_L2 (F + 1) (Int32.ofNat s) (Int32.ofNat p) M = B_improve_L2 F (Int32.ofNat s) (Int32.ofNat (p + 1)) M → ∃ M' : Me, B_improve_L2 (F + 1) (Int32.ofNat s) (Int32.ofNat p) M = some M' ∧ FrB M M' ∧ M'.2.1 3 = M.2.1 3 ∧ M'.1 11 = M.1 11 ∧ (∀ t, ¬ t = s → M'.2.1 2 t = M.2.1 2 t ∧ M'.1 10 t = M.1 10 t) ∧ CL kn M' (FE kn bl mo l (b + 1) s) s := fun h e1 => by
      rw [e1]
      exact ih (p + 1) F M c hs (by omega) (by omega) (by omega) hsc hlow (CL_skip hcl h)
    have e0 : B_improve_L2 (F + 1) (Int32.ofNat s) (Int32.ofNat p) M = B_improve_b2 (B_improve_L2 F) (Int32.ofNat s) (Int32.ofNat p) M := rfl
    by_cases hsub : sub p s
    · have hd := dfs_lt s p
      have hdl : dfs s p < s := dfs_lo s (by omega) p (by omega) hsub (by omega)
      obtain ⟨hv, hvc⟩ := hsc p (by omega)
      rcases hv with ⟨hv1, hv2⟩ | ⟨hv1, hv2⟩
      · obtain ⟨o, o1, o2⟩ := hlow (dfs s p) hdl
        cases o with
        | none =>
          refine skip (OP_none (fun w => w.2.2.elim (fun f hf => o2 f hf))) ?_
          rw [e0]
          unfold B_improve_b2
          have hv3 := sk_le (kn := kn) (s := p) (f := fun _ => b) c.hb
          have o1' : M.2.1 2 (dfs s p) = -1 := o1
          rw [if_neg (by rw [of_lt (by omega) (by omega)]; omega), if_pos ((sub_of s (by omega) p (by omega)).mpr hsub), gd_in (by omega) (by omega), gL_of M 3 (by omega), hv2, if_neg (l_nm1 (by omega)), dfs_of s (by omega) p (by omega), gd_in hd (by omega), gL_of M 2 (by omega), o1', if_pos rfl, of_s]
        | some o =>
          obtain ⟨x, y⟩ := o
          have bd := OP_bd c.hb (fun f hf => FE_cd (show b ≤ 24 by omega) hf) o2 _ rfl
          simp only at bd
          obtain ⟨f0, k1, k2, k3, k4⟩ := id o2
          simp only at k2 k3
          obtain ⟨o1a, o1b⟩ := o1
          simp only at o1a o1b
          have hv3 := sk_le (kn := kn) (s := p) (f := fun _ => b) c.hb
          have hcp : cd p (fun _ => b) < 33554432 := c5_lt (fun i hi => by
            show (if p.testBit i = true then b else 0) < 32
            split <;> omega)
          have eor : y ||| cd p (fun _ => b) = y + cd p (fun _ => b) := by
            rw [k3]
            refine c5_or (fun i hi => ?_) (fun i hi => ?_) (fun i hi => ?_)
            · show (if (dfs s p).testBit i = true then f0 i else 0) < 32
              by_cases q : (dfs s p).testBit i = true
              · rw [if_pos q]
                have := (k1.1 i hi q).1
                omega
              · rw [if_neg q]; omega
            · show (if p.testBit i = true then b else 0) < 32
              split <;> omega
            · show (if (dfs s p).testBit i = true then f0 i else 0) = 0 ∨ (if p.testBit i = true then b else 0) = 0
              rw [dfs_bit s p i hi]
              cases hq : p.testBit i
              · exact Or.inr (if_neg (by decide))
              · exact Or.inl (if_neg (by simp))
          obtain ⟨os, s1, s2⟩ := hcl
          have lA : ∀ f, (FE kn bl mo l (b + 1) s f ∧ mask s f b < p) → cd s f < 33554432 := fun f hf => FE_cd (by omega) hf.1
          have lB : ∀ f, (FE kn bl mo l (b + 1) s f ∧ mask s f b = p) → cd s f < 33554432 := fun f hf => FE_cd (by omega) hf.1
          have bds := OP_bd c.hb lA s2
          have part := OP_part (l := l) (mo := mo) (show p < 32 by omega) hsub hbl hv1 o2
          obtain ⟨g0, pg1, pg2, pg3, -⟩ := id part
          simp only at pg2 pg3
          obtain ⟨M1, m1, m2, m3, m4, m5, m6⟩ := keepB (M := M) (s := s) (x := x + sk kn p (fun _ => b)) (c := y + cd p (fun _ => b)) (by omega) (by omega) (by have := lB g0 pg1; omega) s1 (fun q hq => by have := bds q hq; omega)
          obtain ⟨M2, r1, r2, r3, r4, r5, r6⟩ := ih (p + 1) F M1 (CX_Fr c m2) hs (by omega) (by omega) (by omega) (by rw [m3, m4]; exact hsc) (fun t ht => CL_eq (m5 t (by omega)).1 (m5 t (by omega)).2 (hlow t ht)) ⟨_, m6, OP_congr (fun f => part_iff.symm) (OP_more s2 part lA lB)⟩
          refine ⟨M2, ?_, FrB_tr m2 r2, r3.trans m3, r4.trans m4, fun t ht => ⟨(r5 t ht).1.trans (m5 t ht).1, (r5 t ht).2.trans (m5 t ht).2⟩, r6⟩
          rw [← r1, e0]
          unfold B_improve_b2
          rw [if_neg (by rw [of_lt (by omega) (by omega)]; omega), if_pos ((sub_of s (by omega) p (by omega)).mpr hsub), gd_in (by omega) (by omega), gL_of M 3 (by omega), hv2, if_neg (l_nm1 (by omega)), dfs_of s (by omega) p (by omega), gd_in hd (by omega), gL_of M 2 (by omega), o1a, if_neg (l_nm1 (by omega)), gd_in hd (by omega), gd_in (by omega) (by omega), gd_in hd (by omega), gd_in (by omega) (by omega), gI_of M 10 (by omega), gI_of M 11 (by omega), o1b, hvc, l_add, of_or, eor, m1, Option.bind_some, of_s]
      · refine skip (OP_none (fun w => hv1 w.2.1)) ?_
        rw [e0]
        unfold B_improve_b2
        rw [if_neg (by rw [of_lt (by omega) (by omega)]; omega), if_pos ((sub_of s (by omega) p (by omega)).mpr hsub), gd_in (by omega) (by omega), gL_of M 3 (by omega), hv2, if_pos rfl, of_s]
    · refine skip (OP_none (fun w => hsub w.1)) ?_
      rw [e0]
      unfold B_improve_b2
      rw [if_neg (by rw [of_lt (by omega) (by omega)]; omega), if_neg (fun w => hsub ((sub_of s (by omega) p (by omega)).mp w)), of_s]
theorem of_p (k : Nat) : Int32.ofNat (k + 1) + (-1) = Int32.ofNat k := by
  rw [← of_s, Int32.add_assoc]
  show Int32.ofNat k + (1 + -1) = _
  rw [show (1 : Int32) + -1 = 0 from rfl, Int32.add_zero]
theorem offerL (hb : b < n) (hbl : bl b = true) : ∀ (s F : Nat) (M : Me), CX M m n cw l mo kn → s < 2 ^ m → s < F → (∀ q, q < 2 ^ m → SC kn mo l b q (M.2.1 3 q) (M.1 11 q)) → (∀ t, t ≤ s → CL kn M (FE kn bl mo l b t) t) → (∀ t, s < t → t < 2 ^ m → CL kn M (FE kn bl mo l (b + 1) t) t) → ∃ M' : Me, B_offer_L11 F (Int32.ofNat s) M = some M' ∧ FrB M M' ∧ ∀ t, t < 2 ^ m → CL kn M' (FE kn bl mo l (b + 1) t) t := by
  intro s
  induction s with
  | zero =>
    intro F M c hs hF hsc hlow hup
    obtain ⟨F, rfl⟩ := succ_of hF
    refine ⟨M, ?_, FrB_rf M, fun t ht => ?_⟩
    · show B_offer_b11 _ _ _ = _
      unfold B_offer_b11
      rw [if_pos (by decide)]
    · by_cases h0 : t = 0
      · subst h0
        refine CL_congr (fun f => ?_) (hlow 0 (by omega))
        rw [← FE_same (b := b)]
        refine ⟨fun w => w.1, fun w => ⟨w, ?_⟩⟩
        have := mask_le (b := b) (f := f) (show 0 < 32 by omega)
        omega
      · exact hup t (by omega) ht
  | succ s ih =>
    intro F M c hs hF hsc hlow hup
    have h32 := two_le c.hm
    obtain ⟨F, rfl⟩ := succ_of hF
    obtain ⟨M1, m1, m2, m3, m4, m5, m6⟩ := improveL (bl := bl) hb hbl (s + 1) 1 64 M c hs (by omega) (by omega) (by omega) hsc (fun t ht => hlow t (by omega)) (CL_congr (fun f => FE_same.symm) (hlow (s + 1) (by omega)))
    obtain ⟨M2, r1, r2, r3⟩ := ih F M1 (CX_Fr c m2) (by omega) (by omega) (by rw [m3, m4]; exact hsc) (fun t ht => CL_eq (m5 t (by omega)).1 (m5 t (by omega)).2 (hlow t (by omega))) (fun t h1 h2 => by
      by_cases ht : t = s + 1
      · rw [ht]; exact m6
      · exact CL_eq (m5 t ht).1 (m5 t ht).2 (hup t (by omega) h2))
    refine ⟨M2, ?_, FrB_tr m2 r2, r3⟩
    rw [← r1]
    show B_offer_b11 _ _ _ = _
    unfold B_offer_b11 B_improve
    have m1' : B_improve_L2 64 (Int32.ofNat (s + 1)) 1 M = some M1 := m1
    rw [if_neg (by rw [Int32.not_le]; exact (of_lt (a := 0) (by omega) (by omega)).mpr (by omega)), m1', Option.bind_some, of_p]
theorem offer_v (hb : b < n) (hbl : bl b = true) {M : Me} (c : CX M m n cw l mo kn) (hcl : ∀ t, t < 2 ^ m → CL kn M (FE kn bl mo l b t) t) : ∃ M' : Me, B_offer M (Int32.ofNat b) = some M' ∧ FrB M M' ∧ ∀ t, t < 2 ^ m → CL kn M' (FE kn bl mo l (b + 1) t) t := by
  have hm := c.hm
  have h32 := two_le c.hm
  have hpos : 0 < 2 ^ m := Nat.two_pow_pos m
  obtain ⟨M1, m1, m2, m3, m4, m5⟩ := weighL (b := b) hb (2 ^ m) 0 64 M c (by omega) (by omega) (fun q hq => absurd hq (by omega))
  have c1 := CX_Fr c m2
  have f2 : gF M1 2 = Int32.ofNat m := c1.f2
  obtain ⟨M2, r1, r2, r3⟩ := offerL (bl := bl) hb hbl (2 ^ m - 1) 64 M1 c1 (by omega) (by omega) m5 (fun t ht => CL_eq (by rw [m3]) (by rw [m4]) (hcl t (by omega))) (fun t h1 h2 => absurd h1 (by omega))
  refine ⟨M2, ?_, FrB_tr m2 r2, r3⟩
  unfold B_offer B_weighServices B_allCows
  have m1' : B_weighServices_L2 64 (Int32.ofNat b) 0 M = some M1 := m1
  rw [m1', Option.bind_some, Option.bind_some, f2, all_of m (by omega), r1]
/-- all bulls are offered, one by one -/
theorem planL {M0' : Me} (hliv : ∀ (M : Me), FrB M0' M → ∀ i, i < n → H_isLiving M (Int32.ofNat i) 0 = some (if bl i = true then 1 else 0)) (hsz : M0'.2.2.1 0 = Int32.ofNat n) : ∀ (e i F : Nat) (M : Me), FrB M0' M → CX M m n cw l mo kn → i + e = n → e < F → (∀ t, t < 2 ^ m → CL kn M (FE kn bl mo l i t) t) → ∃ M' : Me, H_plan_L75 F (Int32.ofNat i) M = Option.bind (H_keepList M') (fun r5 => Option.bind (B_leastSum r5) (fun r7 => some (.ok r7, r5))) ∧ FrB M0' M' ∧ CX M' m n cw l mo kn ∧ ∀ t, t < 2 ^ m → CL kn M' (FE kn bl mo l n t) t := by
  intro e
  induction e with
  | zero =>
    intro i F M fr c hi hF hcl
    obtain ⟨F, rfl⟩ := succ_of hF
    have hi2 : i = n := by omega
    subst hi2
    refine ⟨M, ?_, fr, c, hcl⟩
    show H_plan_b75 _ _ _ = _
    unfold H_plan_b75 P_size
    have hs : gF M 0 = Int32.ofNat i := by unfold gF; rw [fr.2.2]; exact hsz
    rw [Option.bind_some, hs, if_pos (Int32.le_refl _)]
  | succ e ih =>
    intro i F M fr c hi hF hcl
    have hn := c.hn
    obtain ⟨F, rfl⟩ := succ_of hF
    have hs : gF M 0 = Int32.ofNat n := by unfold gF; rw [fr.2.2]; exact hsz
    have e0 : H_plan_L75 (F + 1) (Int32.ofNat i) M = H_plan_b75 (H_plan_L75 F) (Int32.ofNat i) M := rfl
    cases hq : bl i
    · obtain ⟨M', r1, r2, r3, r4⟩ := ih (i + 1) F M fr c (by omega) (by omega) (fun t ht => CL_congr (fun f => FE_dead hq) (hcl t ht))
      refine ⟨M', ?_, r2, r3, r4⟩
      rw [← r1, e0]
      unfold H_plan_b75 P_size
      rw [Option.bind_some, hs, if_neg (by rw [of_le (by omega) (by omega)]; omega), hliv M fr i (by omega), hq, Option.bind_some, if_pos (show (if false = true then (1 : Int32) else 0) = 0 by decide), of_s]
    · obtain ⟨M1, m1, m2, m3⟩ := offer_v (show i < n by omega) hq c hcl
      obtain ⟨M', r1, r2, r3, r4⟩ := ih (i + 1) F M1 (FrB_tr fr m2) (CX_Fr c m2) (by omega) (by omega) m3
      refine ⟨M', ?_, r2, r3, r4⟩
      rw [← r1, e0]
      unfold H_plan_b75 P_size
      rw [Option.bind_some, hs, if_neg (by rw [of_le (by omega) (by omega)]; omega), hliv M fr i (by omega), hq, Option.bind_some, if_pos rfl, if_neg (by decide), m1, Option.bind_some, of_s]
end OFFER
