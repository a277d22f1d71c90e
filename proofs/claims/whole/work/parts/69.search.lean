/-! the reference's search finds the best list -/
section SEARCH
variable {m n : Nat} {cw : Nat → Nat} {l mo : Nat} {kn : Nat → Nat → Nat} {bl : Nat → Bool}
def TR (M : Me) (T : Nat → Nat) (m : Nat) : Prop := ∀ i, i < m → M.1 21 i = if T i = 0 then -1 else Int32.ofNat (T i - 1)
def US (M : Me) (T : Nat → Nat) (n : Nat) : Prop := ∀ x, x < n → M.1 23 x = Int32.ofNat (cu T x)
def OKT (kn : Nat → Nat → Nat) (bl : Nat → Bool) (mo l m n : Nat) (T : Nat → Nat) (k : Nat) : Prop := (∀ i, i < k → 1 ≤ T i) ∧ (∀ i, k < i ∨ m ≤ i → T i = 0) ∧ (∀ i, i < m → 1 ≤ T i → T i ≤ n ∧ bl (T i - 1) = true ∧ kn i (T i - 1) ≤ mo) ∧ ∀ x, cu T x ≤ l
def mu (T : Nat → Nat) (k : Nat) : Nat := 6 * (33554432 - pos T k) + (6 - k)
theorem OKT_le (hn : n ≤ 24) {T : Nat → Nat} {k : Nat} (h : OKT kn bl mo l m n T k) : ∀ i, T i ≤ 24 := fun i => by
  by_cases hi : i < m
  · by_cases h1 : 1 ≤ T i
    · have := (h.2.2.1 i hi h1).1
      omega
    · omega
  · rw [h.2.1 i (Or.inr (by omega))]
    omega
theorem OKT_dg (hn : n ≤ 24) {T : Nat → Nat} {k : Nat} (h : OKT kn bl mo l m n T k) : ∀ i, T i - 1 < 32 := fun i => by
  have := OKT_le hn h i
  omega
def GO (kn : Nat → Nat → Nat) (bl : Nat → Bool) (mo l m n : Nat) (F k : Nat) (M : Me) (v : Int64) (s : Nat) : Prop := ∃ (v2 : Int64) (M2 : Me), M_findBest_L63 F (Int32.ofNat l) (Int64.ofNat mo) v (Int64.ofNat s) (Int32.ofNat k) M = some (v2, M2) ∧ FrS M M2 ∧ BS kn bl mo l m n 33554432 v2 M2
theorem key_lt {W a b p d x : Nat} (h : a < b) (hp : p < W) (h7 : b * W + d ≤ x) : a * W + p ≤ x := by
  have := Nat.mul_le_mul_right W (Nat.succ_le_of_lt h)
  rw [Nat.succ_mul] at this
  omega
theorem end_m1 {F : Nat} {a : Int32} {b v s : Int64} {M : Me} (hF : 0 < F) : M_findBest_L63 F a b v s (-1) M = some (v, M) := by
  obtain ⟨F, rfl⟩ := succ_of hF
  show M_findBest_b63 _ _ _ _ _ _ _ = _
  unfold M_findBest_b63
  rw [if_pos (by decide)]
theorem c168_go {M : Me} {T : Nat → Nat} {F k : Nat} {v4 : Int64} (c : RX M m n cw l mo kn bl) (hk : k < m) (hT : OKT kn bl mo l m n T k) (tr : TR M T m) (us : US M (clr T k 0) n) (bs : BS kn bl mo l m n (pos T k) v4 M) (hF : 0 < F) (IH : ∀ (k' : Nat) (T' : Nat → Nat) (M' : Me) (v' : Int64), k' ≤ m → mu T' k' < mu T k → RX M' m n cw l mo kn bl → OKT kn bl mo l m n T' k' → TR M' T' m → US M' T' n → BS kn bl mo l m n (pos T' k') v' M' → (k' = m → v' < 0 ∨ Int64.ofNat (su kn T') < v') → GO kn bl mo l m n F k' M' v' (su kn T')) : ∃ (v2 : Int64) (M2 : Me), M_findBest_c168 (M_findBest_L63 F) (Int32.ofNat l) (Int64.ofNat mo) v4 (Int64.ofNat (su kn (clr T k 0))) (Int32.ofNat k) M = some (v2, M2) ∧ FrS M M2 ∧ BS kn bl mo l m n 33554432 v2 M2 := by
  have hm := c.hm
  have hn := c.hn
  have hl := c.hl
  have T24 := OKT_le hn hT
  have dg := OKT_dg hn hT
  obtain ⟨t1, t2, t3, t4⟩ := hT
  have hK5 : k < 5 := by omega
  have k0 : clr T k 0 k = 0 := if_pos rfl
  have ki : ∀ i v, ¬ i = k → clr T k v i = T i := fun i v h => if_neg h
  have kk : ∀ v, clr T k v k = v := fun v => if_pos rfl
  have etried : gI M 21 (Int32.ofNat k) + 1 = Int32.ofNat (T k) := by
    rw [gI_of M 21 (by omega), tr k hk]
    by_cases h : T k = 0
    · rw [if_pos h, h]; rfl
    · rw [if_neg h, of_s, show T k - 1 + 1 = T k by omega]
  have hTn : T k ≤ n := by
    by_cases h : 1 ≤ T k
    · exact (t3 k hk h).1
    · omega
  have posk : pos T k = c5 (at5 (fun i => T i - 1) k (T k)) := pos_at (fun i hi => t2 i (Or.inl hi))
  have plt : ∀ v, v ≤ 24 → ∀ j, pos (clr T k v) j < 33554432 := fun v hv j => pos_lt (fun i hi => by
    by_cases h : i = k
    · rw [h, kk]; omega
    · rw [ki i v h]; have := T24 i; omega)
  have pT : pos T k < 33554432 := pos_lt (fun i hi => by have := T24 i; omega)
  obtain ⟨r, r1, r2, r3, r4, r5⟩ := nextL c hk us (cu_le5 _) (n - T k) (T k) 64 (by omega) (by omega)
  -- a list that lies between is none
  have between : ∀ (w : Nat) (g : Nat → Nat), w ≤ 32 → FL kn bl mo l m n g → pos T k ≤ dl5 m g → dl5 m g < c5 (at5 (fun i => T i - 1) k w) → (∀ i, i < k → g i = T i - 1) ∧ T k ≤ g k ∧ g k < w ∧ r ≤ g k := fun w g hw hg h1 h2 => by
    rw [posk] at h1
    obtain ⟨q1, q2, q3⟩ := lex (dg_lt hn hg) k hK5 (fun i _ => dg i) (by omega) hw h1 h2
    rw [if_pos hk] at q2 q3
    have q1' : ∀ i, i < k → g i = T i - 1 := fun i hi => by
      have := q1 i hi
      rw [if_pos (by omega)] at this
      exact this
    refine ⟨q1', q2, q3, ?_⟩
    have hgk := hg.1 k hk
    have hcu := pre_cu (T := clr T k 0) (g := g) hk hm (fun i hi => by rw [ki i 0 (by omega)]; exact t1 i hi) (fun i hi => by
      by_cases h : i = k
      · rw [h, k0]
      · rw [ki i 0 h]; exact t2 i (Or.inl (by omega))) (fun i hi => by rw [ki i 0 (by omega)]; exact q1' i hi)
    have hcl := hg.2 (g k)
    by_cases hr : r ≤ g k
    · exact hr
    · exact absurd ⟨hgk.2.1, by omega, hgk.2.2⟩ (r5 (g k) q2 (by omega))
  unfold M_findBest_c168
  rw [gd_in (by omega) (by omega), gd_in (by omega) (by omega), etried, c.hc hk]
  unfold M_nextBull
  rw [r1, Option.bind_some, c.f5]
  by_cases hrn : r = n
  · rw [if_pos (by rw [hrn]), gd_in (by omega) (by omega)]
    have fr1 : FrS M (sI M 21 (Int32.ofNat k) (-1)) := FrS_sI M _ _ (Or.inl rfl)
    by_cases hk0 : k = 0
    · subst hk0
      refine ⟨v4, sI M 21 (Int32.ofNat 0) (-1), ?_, fr1, ?_⟩
      · exact end_m1 hF
      · refine BS_to (Nat.le_of_lt pT) rfl bs (fun g hg h1 h2 => ?_) c.hb
        have e32 : c5 (at5 (fun i => T i - 1) 0 32) = 33554432 := by simp [c5, at5]
        have := between 32 g (by omega) hg h1 (by rw [e32]; exact h2)
        have h9 := (hg.1 0 hk).1
        omega
    · obtain ⟨k', rfl⟩ : ∃ k', k = k' + 1 := ⟨k - 1, by omega⟩
      have up : pos (clr T (k' + 1) 0) k' = c5 (at5 (fun i => T i - 1) (k' + 1) 32) := by
        rw [pos_up k' (by omega) (by rw [ki k' 0 (by omega)]; exact t1 k' (by omega)) (fun i hi => by
          by_cases h : i = k' + 1
          · rw [h, k0]
          · rw [ki i 0 h]; exact t2 i (Or.inl (by omega)))]
        refine c5_congr (fun i hi => ?_)
        unfold at5
        by_cases h : i < k' + 1
        · rw [if_pos h, if_pos h]
          show clr T (k' + 1) 0 i - 1 = T i - 1
          rw [ki i 0 (by omega)]
        · rw [if_neg h, if_neg h]
      have plt' := plt 0 (by omega) k'
      have ltp : pos T (k' + 1) < pos (clr T (k' + 1) 0) k' := by
        rw [up, posk]
        exact at5_lt (by have := T24 (k' + 1); omega) (k' + 1) hK5
      have hgo := IH k' (clr T (k' + 1) 0) (sI M 21 (Int32.ofNat (k' + 1)) (-1)) v4 (by omega) (by unfold mu; omega) (RX_Fr c fr1) ⟨fun i hi => by rw [ki i 0 (by omega)]; exact t1 i (by omega), fun i hi => by
          by_cases h : i = k' + 1
          · rw [h, k0]
          · rw [ki i 0 h]; exact t2 i (by omega), fun i hi h1 => by
          by_cases h : i = k' + 1
          · rw [h, k0] at h1; omega
          · rw [ki i 0 h] at h1 ⊢; exact t3 i hi h1, fun x => by
          by_cases h : T (k' + 1) = 0
          · have e : clr T (k' + 1) 0 = T := by
              have := clr_id (T := T) (k := k' + 1)
              rw [h] at this
              exact this
            rw [e]; exact t4 x
          · have e : T = clr (clr T (k' + 1) 0) (k' + 1) (T (k' + 1) - 1 + 1) := by
              rw [clr_clr, show T (k' + 1) - 1 + 1 = T (k' + 1) by omega, clr_id]
            have := t4 x
            rw [e, cu_clr hK5 k0] at this
            omega⟩ (fun i hi => by
          show upd (M.1 21) (Int32.ofNat (k' + 1)).toNatClampNeg (-1) i = _
          rw [of_cl (by omega)]
          show (if i = k' + 1 then _ else M.1 21 i) = _
          by_cases h : i = k' + 1
          · rw [if_pos h, h, k0, if_pos rfl]
          · rw [if_neg h, ki i 0 h]; exact tr i hi) us (BS_to (Nat.le_of_lt ltp) rfl bs (fun g hg h1 h2 => by
          rw [up] at h2
          have := between 32 g (by omega) hg h1 h2
          have h9 := (hg.1 (k' + 1) hk).1
          omega) c.hb) (fun h => by omega)
      obtain ⟨v2, M2, g1, g2, g3⟩ := hgo
      refine ⟨v2, M2, ?_, FrS_tr fr1 g2, g3⟩
      rw [of_p]
      exact g1
  · have hr : r < n := by omega
    obtain ⟨o1, o2, o3⟩ := r4 hr
    have hu5 := cu_le5 (clr T k 0) r
    have hkb := c.hb k r
    have hsu := su_le (T := clr T k 0) c.hb
    have eT : clr T k (r + 1) = clr (clr T k 0) k (r + 1) := (clr_clr 0 (r + 1)).symm
    have sT : su kn (clr T k (r + 1)) = su kn (clr T k 0) + kn k r := by rw [eT, su_clr hK5 k0]
    have cT : ∀ x, cu (clr T k (r + 1)) x = cu (clr T k 0) x + (if r = x then 1 else 0) := fun x => by rw [eT, cu_clr hK5 k0]
    rw [if_neg (fun q => hrn ((of_eq (by omega) (by omega)).mp q)), gd_in (by omega) (by omega), gd_in (by omega) (by omega), gd_in (by omega) (by omega), gd_in (by omega) (by omega)]
    have eu : gI (sI M 21 (Int32.ofNat k) (Int32.ofNat r)) 23 (Int32.ofNat r) + 1 = Int32.ofNat (cu (clr T k 0) r + 1) := by
      rw [gI_of _ 23 (by omega), ← of_s]
      show M.1 23 r + 1 = _
      rw [us r hr]
    rw [eu]
    generalize hM1 : sI (sI M 21 (Int32.ofNat k) (Int32.ofNat r)) 23 (Int32.ofNat r) (Int32.ofNat (cu (clr T k 0) r + 1)) = M1
    have fr1 : FrS M M1 := by rw [← hM1]; exact FrS_tr (FrS_sI M _ _ (Or.inl rfl)) (FrS_sI _ _ _ (Or.inr (Or.inr rfl)))
    have m22 : M1.1 22 = M.1 22 := by rw [← hM1]; rfl
    have c1 := RX_Fr c fr1
    have tr1 : TR M1 (clr T k (r + 1)) m := fun i hi => by
      rw [← hM1]
      show upd (M.1 21) (Int32.ofNat k).toNatClampNeg (Int32.ofNat r) i = _
      rw [of_cl (by omega)]
      show (if i = k then _ else M.1 21 i) = _
      by_cases h : i = k
      · rw [if_pos h, h, kk, if_neg (by omega)]; rfl
      · rw [if_neg h, ki i _ h]; exact tr i hi
    have us1 : US M1 (clr T k (r + 1)) n := fun x hx => by
      rw [← hM1]
      show upd (M.1 23) (Int32.ofNat r).toNatClampNeg _ x = _
      rw [of_cl (by omega), cT]
      show (if x = r then _ else M.1 23 x) = _
      by_cases h : x = r
      · rw [if_pos h, if_pos h.symm, h]
      · rw [if_neg h, if_neg (fun q => h q.symm), us x hx]; rfl
    have ok1 : ∀ j, (j = k ∨ j = k + 1) → OKT kn bl mo l m n (clr T k (r + 1)) j := fun j hj => ⟨fun i hi => by
        by_cases h : i = k
        · rw [h, kk]; omega
        · rw [ki i _ h]; exact t1 i (by omega), fun i hi => by
        rw [ki i _ (by omega)]
        exact t2 i (by omega), fun i hi h1 => by
        by_cases h : i = k
        · rw [h, kk]
          exact ⟨by omega, o1, o3⟩
        · rw [ki i _ h] at h1 ⊢; exact t3 i hi h1, fun x => by
        rw [cT]
        by_cases h : r = x
        · rw [if_pos h, ← h]; omega
        · rw [if_neg h, Nat.add_zero]
          by_cases h0 : T k = 0
          · have e : clr T k 0 = T := by
              have := clr_id (T := T) (k := k)
              rw [h0] at this
              exact this
            rw [e]; exact t4 x
          · have e : T = clr (clr T k 0) k (T k - 1 + 1) := by
              rw [clr_clr, show T k - 1 + 1 = T k by omega, clr_id]
            have := t4 x
            rw [e, cu_clr hK5 k0] at this
            omega⟩
    rw [c1.hc hk, c1.hk k hk r hr, Option.bind_some, l_add, ← sT]
    have hsu1 := su_le (T := clr T k (r + 1)) c.hb
    have pD : pos (clr T k (r + 1)) (k + 1) = c5 (at5 (fun i => T i - 1) k r) := by
      refine c5_congr (fun i hi => ?_)
      unfold at5
      by_cases h : i < k
      · rw [if_pos (by omega), if_pos h, ki i _ (by omega)]
      · rw [if_neg h]
        by_cases h2 : i = k
        · rw [if_pos (by omega), if_pos h2, h2, kk]; rfl
        · rw [if_neg (by omega), if_neg h2, ki i _ h2, t2 i (Or.inl (by omega))]
    have pS : pos (clr T k (r + 1)) k = c5 (at5 (fun i => T i - 1) k (r + 1)) := by
      refine c5_congr (fun i hi => ?_)
      unfold at5
      by_cases h : i < k
      · rw [if_pos h, if_pos h, ki i _ (by omega)]
      · rw [if_neg h, if_neg h]
        by_cases h2 : i = k
        · rw [if_pos h2, h2, kk]
        · rw [if_neg h2, ki i _ h2, t2 i (Or.inl (by omega))]
    have leD : pos T k ≤ pos (clr T k (r + 1)) (k + 1) := by rw [posk, pD]; exact at5_le r2 hK5
    have ltS : pos T k < pos (clr T k (r + 1)) k := by rw [posk, pS]; exact at5_lt (by omega) k hK5
    have bD := plt (r + 1) (by omega) (k + 1)
    have bS := plt (r + 1) (by omega) k
    have deeper : (v4 < 0 ∨ Int64.ofNat (su kn (clr T k (r + 1))) < v4) → ∃ (v2 : Int64) (M2 : Me), M_findBest_c283 (M_findBest_L63 F) (Int32.ofNat l) (Int64.ofNat mo) v4 (Int64.ofNat (su kn (clr T k (r + 1)))) (Int32.ofNat k) 1 M1 = some (v2, M2) ∧ FrS M M2 ∧ BS kn bl mo l m n 33554432 v2 M2 := fun hb => by
      obtain ⟨v2, M2, g1, g2, g3⟩ := IH (k + 1) (clr T k (r + 1)) M1 v4 (by omega) (by unfold mu; omega) c1 (ok1 _ (Or.inr rfl)) tr1 us1 (BS_to leD m22 bs (fun g hg h1 h2 => by
        rw [pD] at h2
        have := between r g (by omega) hg h1 h2
        omega) c.hb) (fun _ => hb)
      refine ⟨v2, M2, ?_, FrS_tr fr1 g2, g3⟩
      unfold M_findBest_c283
      rw [if_neg (by decide), of_s]
      exact g1
    by_cases hv : v4 < 0
    · rw [if_pos hv]
      exact deeper (Or.inl hv)
    · rw [if_neg hv]
      obtain ⟨x, x1, x2⟩ : ∃ x, v4 = Int64.ofNat x ∧ x < 9223372036854775808 := by
        rcases bs with ⟨h1, -⟩ | ⟨f, -, -, h3, -⟩
        · rw [h1] at hv; exact absurd (by decide) hv
        · exact ⟨_, h3, by have := sl_le (m := m) (f := f) c.hb; omega⟩
      obtain ⟨q, q1, q2, q3⟩ := leastL c1 hr o1 (m - (k + 1)) (k + 1) 64 0 (by omega) (by omega)
      have q1' : M_leastFrom M1 (Int32.ofNat k + 1) (Int64.ofNat mo) = some (Int64.ofNat q) := by
        unfold M_leastFrom
        rw [of_s]
        rw [Nat.zero_add] at q1
        exact q1
      have hq : q ≤ 5629499534213120 := by
        have : m - (k + 1) ≤ 5 := by omega
        have := Nat.mul_le_mul_right 1125899906842624 this
        omega
      rw [q1', Option.bind_some, l_add, x1]
      by_cases hle : x ≤ su kn (clr T k (r + 1)) + q
      · rw [if_pos ((l_le x2 (by omega)).mpr hle)]
        obtain ⟨v2, M2, g1, g2, g3⟩ := IH k (clr T k (r + 1)) M1 v4 (by omega) (by unfold mu; omega) c1 (ok1 _ (Or.inl rfl)) tr1 us1 (BS_to (Nat.le_of_lt ltS) m22 bs (fun g hg h1 h2 => by
          rw [pS] at h2
          obtain ⟨w1, w2, w3, w4⟩ := between (r + 1) g (by omega) hg h1 h2
          refine ⟨x, x1, x2, ?_⟩
          rw [pre_su (T := clr T k (r + 1)) (k := k + 1) (by omega) (fun i hi => (ok1 (k + 1) (Or.inr rfl)).1 i hi) (fun i hi => (ok1 k (Or.inl rfl)).2.1 i (Or.inl (by omega))) (fun i hi => by
            by_cases h : i = k
            · rw [h, kk]; omega
            · rw [ki i _ h]; exact w1 i (by omega))]
          have := q3 g (fun j hj => ⟨(hg.1 j hj).1, (hg.1 j hj).2.1⟩)
          omega) c.hb) (fun h => by omega)
        refine ⟨v2, M2, ?_, FrS_tr fr1 g2, g3⟩
        unfold M_findBest_c283
        rw [if_pos rfl, ← x1]
        exact g1
      · rw [if_neg (fun w => hle ((l_le x2 (by omega)).mp w)), ← x1]
        refine deeper (Or.inr ?_)
        rw [x1, l_lt (by omega) x2]
        omega
theorem copy22 (rec63 : Int32 → Int64 → Int64 → Int64 → Int32 → Me → Option (Int64 × Me)) (a : Int32) (b v s : Int64) (k : Int32) (hm : m ≤ 5) : ∀ (e i F : Nat) (M : Me), M.2.2.1 7 = Int32.ofNat m → i + e = m → e < F → (∀ j, j < i → M.1 22 j = M.1 21 j) → ∃ M' : Me, M_findBest_L84 rec63 F a b v s k (Int32.ofNat i) M = rec63 a b v s (k + -1) M' ∧ FrS M M' ∧ M'.1 21 = M.1 21 ∧ M'.1 23 = M.1 23 ∧ ∀ j, j < m → M'.1 22 j = M.1 21 j := by
  intro e
  induction e with
  | zero =>
    intro i F M h7 hi hF hj
    obtain ⟨F, rfl⟩ := succ_of hF
    have hi2 : i = m := by omega
    subst hi2
    refine ⟨M, ?_, FrS_rf M, rfl, rfl, hj⟩
    show M_findBest_b84 _ _ _ _ _ _ _ _ _ = _
    unfold M_findBest_b84
    rw [show gF M 7 = Int32.ofNat i from h7, if_pos (Int32.le_refl _)]
  | succ e ih =>
    intro i F M h7 hi hF hj
    obtain ⟨F, rfl⟩ := succ_of hF
    have e22 : ∀ j, (sI M 22 (Int32.ofNat i) (M.1 21 i)).1 22 j = if j = i then M.1 21 i else M.1 22 j := fun j => by
      show upd (M.1 22) (Int32.ofNat i).toNatClampNeg _ j = _
      rw [of_cl (by omega)]
      rfl
    obtain ⟨M', r1, r2, r3, r4, r5⟩ := ih (i + 1) F (sI M 22 (Int32.ofNat i) (M.1 21 i)) h7 (by omega) (by omega) (fun j h => by
      rw [e22]
      by_cases q : j = i
      · rw [if_pos q, q]; rfl
      · rw [if_neg q]; exact hj j (by omega))
    refine ⟨M', ?_, FrS_tr (FrS_sI M _ _ (Or.inr (Or.inl rfl))) r2, r3, r4, r5⟩
    rw [← r1]
    show M_findBest_b84 _ _ _ _ _ _ _ _ _ = _
    unfold M_findBest_b84
    rw [show gF M 7 = Int32.ofNat m from h7, if_neg (by rw [of_le (by omega) (by omega)]; omega), gd_in (by omega) (by omega), gd_in (by omega) (by omega), gI_of M 21 (by omega), of_s]
theorem search : ∀ (N k : Nat) (T : Nat → Nat) (F : Nat) (M : Me) (v4 : Int64), mu T k ≤ N → N < F → k ≤ m → RX M m n cw l mo kn bl → OKT kn bl mo l m n T k → TR M T m → US M T n → BS kn bl mo l m n (pos T k) v4 M → (k = m → v4 < 0 ∨ Int64.ofNat (su kn T) < v4) → GO kn bl mo l m n F k M v4 (su kn T) := by
  intro N
  induction N with
  | zero =>
    intro k T F M v4 h1 h2 h3 c
    have := c.hm
    unfold mu at h1
    omega
  | succ N ih =>
    intro k T F M v4 h1 h2 h3 c hT tr us bs hb
    have hm := c.hm
    have hn := c.hn
    have hl := c.hl
    obtain ⟨F, rfl⟩ := succ_of h2
    have T24 := OKT_le hn hT
    have dg := OKT_dg hn hT
    have e0 : M_findBest_L63 (F + 1) (Int32.ofNat l) (Int64.ofNat mo) v4 (Int64.ofNat (su kn T)) (Int32.ofNat k) M = M_findBest_b63 (M_findBest_L63 F) (Int32.ofNat l) (Int64.ofNat mo) v4 (Int64.ofNat (su kn T)) (Int32.ofNat k) M := rfl
    unfold GO
    rw [e0]
    unfold M_findBest_b63
    rw [if_neg (of_nlt0 (by omega)), c.f7]
    by_cases hkm : k = m
    · subst hkm
      rw [if_pos rfl]
      obtain ⟨M1, r1, r2, r3, r4, r5⟩ := copy22 (M_findBest_L63 F) (Int32.ofNat l) (Int64.ofNat mo) (Int64.ofNat (su kn T)) (Int64.ofNat (su kn T)) (Int32.ofNat k) hm k 0 64 M c.f7 (by omega) (by omega) (fun j hj => absurd hj (by omega))
      obtain ⟨t1, t2, t3, t4⟩ := hT
      -- the list itself
      have ecl : ∀ x, cl5 k (fun i => T i - 1) x = cu T x := fun x => s5_congr (fun i hi => by
        show (if i < k ∧ T i - 1 = x then 1 else 0) = (if T i = x + 1 then 1 else 0)
        by_cases h : i < k
        · have := t1 i h
          by_cases q : T i = x + 1
          · rw [if_pos q, if_pos ⟨h, by omega⟩]
          · rw [if_neg q, if_neg (by omega)]
        · rw [t2 i (Or.inr (by omega)), if_neg (by omega), if_neg (by omega)])
      have fl : FL kn bl mo l k n (fun i => T i - 1) := ⟨fun i hi => by
        have h := t3 i hi (t1 i hi)
        have := t1 i hi
        exact ⟨by show T i - 1 < n; omega, h.2⟩, fun x => by rw [ecl]; exact t4 x⟩
      have esl : sl5 kn k (fun i => T i - 1) = su kn T := s5_congr (fun i hi => by
        by_cases h : i < k
        · have := t1 i h
          rw [if_pos h, if_neg (by omega)]
        · rw [if_neg h, t2 i (Or.inr (by omega)), if_pos rfl])
      have edl : dl5 k (fun i => T i - 1) = pos T k := c5_congr (fun i hi => by
        by_cases h : i < k
        · rw [if_pos h, if_pos h]
        · rw [if_neg h, if_neg h, t2 i (Or.inr (by omega))])
      have n22 : ∀ i, i < k → M1.1 22 i = Int32.ofNat (T i - 1) := fun i hi => by
        have := t1 i hi
        rw [r5 i hi, tr i hi, if_neg (by omega)]
      -- old lists are worse
      have old : ∀ g, FL kn bl mo l k n g → dl5 k g < pos T k → su kn T * 33554432 + pos T k ≤ sl5 kn k g * 33554432 + dl5 k g := fun g hg h => by
        rcases bs with ⟨-, h6⟩ | ⟨f, f1, f2, f3, f4, f5⟩
        · exact absurd h (h6 g hg)
        · have h7 := f5 g hg h
          have hsf := sl_le (m := k) (f := f) c.hb
          have hs2 := su_le (T := T) c.hb
          have hp := pos_lt (T := T) (k := k) (fun i _ => by have := T24 i; omega)
          rcases hb rfl with h8 | h8
          · rw [f3] at h8; exact absurd h8 (l_nlt0 (by omega))
          · rw [f3, l_lt (by omega) (by omega)] at h8
            exact key_lt h8 hp h7
      rw [show (Int32.ofNat 0 : Int32) = 0 from rfl] at r1
      rw [r1]
      by_cases hk0 : k = 0
      · subst hk0
        refine ⟨Int64.ofNat (su kn T), M1, ?_, r2, Or.inr ⟨fun i => T i - 1, fl, dl_lt hn fl, by rw [esl], n22, fun g hg _ => ?_⟩⟩
        · exact end_m1 (by omega)
        · have z1 : sl5 kn 0 g = 0 := by simp [sl5, s5]
          have z2 : dl5 0 g = 0 := by simp [dl5, c5]
          have z3 : sl5 kn 0 (fun i => T i - 1) = 0 := by simp [sl5, s5]
          have z4 : dl5 0 (fun i => T i - 1) = 0 := by simp [dl5, c5]
          omega
      · obtain ⟨k', rfl⟩ : ∃ k', k = k' + 1 := ⟨k - 1, by omega⟩
        have pu : pos T k' = c5 (at5 (fun i => T i - 1) k' (T k')) := pos_at (fun i hi => t2 i (Or.inr (by omega)))
        have pd : pos T (k' + 1) = c5 (at5 (fun i => T i - 1) k' (T k' - 1)) := c5_congr (fun i hi => by
          unfold at5
          by_cases h : i < k'
          · rw [if_pos (by omega), if_pos h]
          · rw [if_neg h]
            by_cases q : i = k'
            · rw [if_pos (by omega), if_pos q, q]
            · rw [if_neg (by omega), if_neg q, t2 i (Or.inr (by omega))])
        have hT1 := t1 k' (by omega)
        have ltp : pos T (k' + 1) < pos T k' := by rw [pu, pd]; exact at5_lt (by omega) k' (by omega)
        have hp := pos_lt (T := T) (k := k') (fun i _ => by have := T24 i; omega)
        rw [of_p]
        obtain ⟨v2, M2, g1, g2, g3⟩ := ih k' T F M1 (Int64.ofNat (su kn T)) (by unfold mu at h1 ⊢; omega) (by omega) (by omega) (RX_Fr c r2) ⟨fun i hi => t1 i (by omega), fun i hi => t2 i (Or.inr (by omega)), t3, t4⟩ (fun i hi => by rw [r3]; exact tr i hi) (fun x hx => by rw [r4]; exact us x hx) (Or.inr ⟨fun i => T i - 1, fl, by rw [edl]; exact ltp, by rw [esl], n22, fun g hg h => by
          rw [esl, edl]
          by_cases w : dl5 (k' + 1) g < pos T (k' + 1)
          · exact old g hg w
          · obtain ⟨w1, w2, w3⟩ := lex (v := T k' - 1) (w := T k') (dg_lt hn hg) k' (by omega) (fun i _ => dg i) (by have := T24 k'; omega) (by have := T24 k'; omega) (by rw [← pd]; exact Nat.le_of_not_lt w) (by rw [← pu]; exact h)
            rw [if_pos (by omega)] at w2 w3
            have eg : ∀ i, i < k' + 1 → g i = T i - 1 := fun i hi => by
              by_cases q : i = k'
              · rw [q]; omega
              · have := w1 i (by omega)
                rw [if_pos (by omega)] at this
                exact this
            have z1 : sl5 kn (k' + 1) g = su kn T := by
              rw [← esl]
              refine s5_congr (fun i hi => ?_)
              by_cases q : i < k' + 1
              · rw [if_pos q, if_pos q, eg i q]
              · rw [if_neg q, if_neg q]
            have z2 : dl5 (k' + 1) g = pos T (k' + 1) := by
              rw [← edl]
              refine c5_congr (fun i hi => ?_)
              by_cases q : i < k' + 1
              · rw [if_pos q, if_pos q, eg i q]
              · rw [if_neg q, if_neg q]
            rw [z1, z2]
            exact Nat.le_refl _⟩) (fun h => by omega)
        exact ⟨v2, M2, g1, FrS_tr r2 g2, g3⟩
    · have hk : k < m := by omega
      have hK5 : k < 5 := by omega
      have k0 : clr T k 0 k = 0 := if_pos rfl
      rw [if_neg (fun q => hkm ((of_eq (by omega) (by omega)).mp q)), gd_in (by omega) (by omega), gI_of M 21 (by omega), tr k hk]
      have IH : ∀ (k' : Nat) (T' : Nat → Nat) (M' : Me) (v' : Int64), k' ≤ m → mu T' k' < mu T k → RX M' m n cw l mo kn bl → OKT kn bl mo l m n T' k' → TR M' T' m → US M' T' n → BS kn bl mo l m n (pos T' k') v' M' → (k' = m → v' < 0 ∨ Int64.ofNat (su kn T') < v') → GO kn bl mo l m n F k' M' v' (su kn T') := fun k' T' M' v' a1 a2 a3 a4 a5 a6 a7 a8 => ih k' T' F M' v' (by omega) (by omega) a1 a3 a4 a5 a6 a7 a8
      by_cases hz : T k = 0
      · have e : clr T k 0 = T := by
          have := clr_id (T := T) (k := k)
          rw [hz] at this
          exact this
        rw [if_pos hz, if_pos (by decide)]
        have := c168_go c hk hT tr (by rw [e]; exact us) bs (by omega) IH
        rw [e] at this
        exact this
      · have eT : T = clr (clr T k 0) k (T k - 1 + 1) := by rw [clr_clr, show T k - 1 + 1 = T k by omega, clr_id]
        have hq := hT.2.2.1 k hk (by omega)
        have hb24 : T k - 1 < n := by omega
        have sT : su kn T = su kn (clr T k 0) + kn k (T k - 1) := by
          have := su_clr (kn := kn) hK5 k0 (T k - 1)
          rw [← eT] at this
          exact this
        have cT : ∀ x, cu T x = cu (clr T k 0) x + (if T k - 1 = x then 1 else 0) := fun x => by
          have := cu_clr hK5 k0 (T k - 1) x
          rw [← eT] at this
          exact this
        rw [if_neg hz, if_neg (of_nlt0 (by omega)), gd_in (by omega) (by omega), gd_in (by omega) (by omega), gd_in (by omega) (by omega), gd_in (by omega) (by omega), gd_in (by omega) (by omega)]
        have eu : gI M 23 (Int32.ofNat (T k - 1)) - 1 = Int32.ofNat (cu (clr T k 0) (T k - 1)) := by
          rw [gI_of M 23 (by omega), us _ hb24, cT, if_pos rfl, ← of_s, Int32.add_sub_cancel]
        rw [eu]
        have fr1 : FrS M (sI M 23 (Int32.ofNat (T k - 1)) (Int32.ofNat (cu (clr T k 0) (T k - 1)))) := FrS_sI M _ _ (Or.inr (Or.inr rfl))
        have c1 := RX_Fr c fr1
        have tr1 : TR (sI M 23 (Int32.ofNat (T k - 1)) (Int32.ofNat (cu (clr T k 0) (T k - 1)))) T m := tr
        rw [c1.hc hk, gI_of _ 21 (by omega), tr1 k hk, if_neg hz, c1.hk k hk _ hb24, Option.bind_some]
        have es : Int64.ofNat (su kn T) - Int64.ofNat (kn k (T k - 1)) = Int64.ofNat (su kn (clr T k 0)) := by
          rw [← Int64.ofNat_sub _ _ (by omega)]
          exact congrArg _ (by omega)
        rw [es]
        obtain ⟨v2, M2, g1, g2, g3⟩ := c168_go (T := T) c1 hk hT tr1 (fun x hx => by
          show upd (M.1 23) (Int32.ofNat (T k - 1)).toNatClampNeg _ x = _
          rw [of_cl (by omega)]
          show (if x = T k - 1 then _ else M.1 23 x) = _
          by_cases h : x = T k - 1
          · rw [if_pos h, h]
          · rw [if_neg h, us x hx, cT, if_neg (fun q => h q.symm)]; rfl) bs (by omega) IH
        exact ⟨v2, M2, g1, FrS_tr fr1 g2, g3⟩
end SEARCH
