/-! correct agrees -/
section CORRECT
variable {n a : Nat}
/-- what the class's loop over the animals from a on leaves behind; the reference counts alike -/
theorem replaceL {M Ma : Me} (hn : n ≤ 24) (hp : PR (Ma.1 0) (Ma.1 1) n) (hs : Ma.2.2.1 0 = Int32.ofNat n) (hl : Ma.2.1 0 = M.2.1 0) : ∀ (e i F F' : Nat) (c : Int32) (Mc : Me), i + e = n → e < F → e < F' → (∀ x, ¬ x = 2 → ¬ x = 3 → Mc.1 x = Ma.1 x) → Mc.2.2 = Ma.2.2 → (∀ x, x < 8 → ¬ x = 0 → Mc.2.1 x = Ma.2.1 x) → (∀ j, j < i → Mc.2.1 0 j = kp (Kt (Ma.1 0) (Ma.1 1) n) (Ma.1 0 j) (Ma.1 1 j)) → (∀ j, i ≤ j → Mc.2.1 0 j = M.2.1 0 j) → (∀ x y, x < i → y < i → Mc.2.1 (8 + x) y = Kt (Ma.1 0) (Ma.1 1) i x y) → (∀ x, x < i → Mc.1 2 x = Tb (dstep (Ma.1 0) (Ma.1 1)) 0 i x ∧ Mc.1 3 x = Tb (fstep (Ma.1 0) (Ma.1 1)) 0 i x) → ∃ (r : Int32) (M' : Me), P_replaceParents_L20 F c (Int32.ofNat i) Mc = some (r, M') ∧ (∀ x, ¬ x = 2 → ¬ x = 3 → M'.1 x = Ma.1 x) ∧ M'.2.2 = Ma.2.2 ∧ (∀ x, x < 8 → ¬ x = 0 → M'.2.1 x = Ma.2.1 x) ∧ (∀ j, j < n → M'.2.1 0 j = kp (Kt (Ma.1 0) (Ma.1 1) n) (Ma.1 0 j) (Ma.1 1 j)) ∧ (∀ x y, x < n → y < n → M'.2.1 (8 + x) y = Kt (Ma.1 0) (Ma.1 1) n x y) ∧ (∀ x, x < n → M'.1 2 x = Tb (dstep (Ma.1 0) (Ma.1 1)) 0 n x ∧ M'.1 3 x = Tb (fstep (Ma.1 0) (Ma.1 1)) 0 n x) ∧ ∀ Mr : Me, gF Mr 5 = Int32.ofNat n → (∀ j, j < n → Mr.2.1 5 j = kp (Kt (Ma.1 0) (Ma.1 1) n) (Ma.1 0 j) (Ma.1 1 j)) → (∀ j, j < n → Mr.2.1 6 j = M.2.1 0 j) → M_correct_L162 F' c (Int32.ofNat i) Mr = some (r, Mr) := by
  intro e
  induction e with
  | zero =>
    intro i F F' c Mc hi hF hF' k1 k2 k3 k4 k5 k6 k7
    obtain ⟨F, rfl⟩ := succ_of hF
    obtain ⟨F', rfl⟩ := succ_of hF'
    have hi2 : i = n := by omega
    subst hi2
    refine ⟨c, Mc, ?_, k1, k2, k3, k4, k6, k7, fun Mr m5 _ _ => ?_⟩
    · show P_replaceParents_b20 _ _ _ _ = _
      unfold P_replaceParents_b20
      rw [if_pos (by unfold gF; rw [k2, hs]; exact Int32.le_refl _)]
    · show M_correct_b162 _ _ _ _ = _
      unfold M_correct_b162
      rw [m5, if_pos (Int32.le_refl _)]
  | succ e ih =>
    intro i F F' c Mc hi hF hF' k1 k2 k3 k4 k5 k6 k7
    obtain ⟨F, rfl⟩ := succ_of hF
    obtain ⟨F', rfl⟩ := succ_of hF'
    have c0 := k1 0 (by decide) (by decide)
    have c1 := k1 1 (by decide) (by decide)
    obtain ⟨Md, d1, r1, r2, r3, r4, r5, r6, r7⟩ := renew (a := i) (M := Mc) (by omega) (by rw [c0]; exact (hp i (by omega)).1) (by rw [c1]; exact (hp i (by omega)).2) (by rw [c0, c1]; exact k6) (by rw [c0, c1]; exact fun x hx => (k7 x hx).1) (by rw [c0, c1]; exact fun x hx => (k7 x hx).2)
    rw [c0, c1] at r2 r3 r6 r7
    have hni : ¬ gF Mc 0 ≤ Int32.ofNat i := by unfold gF; rw [k2, hs, of_le (by omega) (by omega)]; omega
    have dnew : Md.2.1 0 i = kp (Kt (Ma.1 0) (Ma.1 1) n) (Ma.1 0 i) (Ma.1 1 i) := by
      rw [r6]
      show (if i = i then _ else _) = _
      rw [if_pos rfl, kp_to (n := n) (hp i (by omega)).1 (hp i (by omega)).2 (by omega) hn]
    have dold : Mc.2.1 0 i = M.2.1 0 i := k5 i (Nat.le_refl _)
    have e1 : P_replaceParents_L20 (F + 1) c (Int32.ofNat i) Mc = P_replaceParents_L20 F (if Md.2.1 0 i = Mc.2.1 0 i then c else c + 1) (Int32.ofNat (i + 1)) Md := by
      show P_replaceParents_b20 _ _ _ _ = _
      unfold P_replaceParents_b20
      rw [if_neg hni, gd_in (by omega) (by omega), d1, Option.bind_some, gd_in (by omega) (by omega), gL_of Md 0 (by omega), gL_of Mc 0 (by omega), of_s]
      by_cases hq : Md.2.1 0 i = Mc.2.1 0 i
      · rw [if_pos hq, if_pos hq]
      · rw [if_neg hq, if_neg hq]
    obtain ⟨r, M', q1, q2, q3, q4, q5, q6, q7, q8⟩ := ih (i + 1) F F' (if Md.2.1 0 i = Mc.2.1 0 i then c else c + 1) Md (by omega) (by omega) (by omega) (fun x h2 h3 => (r1 x h2 h3).trans (k1 x h2 h3)) (r4.trans k2) (fun x h8 h0 => (r5 x h8 h0).trans (k3 x h8 h0)) (fun j hj => by
        by_cases hji : j = i
        · rw [hji]; exact dnew
        · rw [r6]
          show (if j = i then _ else Mc.2.1 0 j) = _
          rw [if_neg hji]
          exact k4 j (by omega)) (fun j hj => by
        rw [r6]
        show (if j = i then _ else Mc.2.1 0 j) = _
        rw [if_neg (by omega)]
        exact k5 j (by omega)) r7 (fun x hx => by
        rw [r2, r3]
        show (if x = i then _ else Mc.1 2 x) = _ ∧ (if x = i then _ else Mc.1 3 x) = _
        by_cases hxi : x = i
        · subst hxi
          rw [if_pos rfl, if_pos rfl]
          exact ⟨rfl, rfl⟩
        · rw [if_neg hxi, if_neg hxi, Tb_to (n := i) (m := i + 1) (show x < i by omega) (by omega), Tb_to (n := i) (m := i + 1) (show x < i by omega) (by omega)]
          exact k7 x (by omega))
    refine ⟨r, M', e1.trans q1, q2, q3, q4, q5, q6, q7, fun Mr m1 m2 m3 => ?_⟩
    rw [← q8 Mr m1 m2 m3]
    show M_correct_b162 _ _ _ _ = _
    unfold M_correct_b162
    rw [m1, if_neg (by rw [of_le (by omega) (by omega)]; omega), gd_in (by omega) (by omega), gd_in (by omega) (by omega), gL_of Mr 5 (by omega), gL_of Mr 6 (by omega), m2 i (by omega), m3 i (by omega), of_s, ← dnew, ← dold]
    by_cases hq : Md.2.1 0 i = Mc.2.1 0 i
    · rw [if_pos hq, if_pos hq]
    · rw [if_neg hq, if_neg hq]
theorem count_low {Mr : Me} (hn : n ≤ 24) (ha : a ≤ n) (hc : gF Mr 5 = Int32.ofNat n) (hq : ∀ j, j < a → Mr.2.1 5 j = Mr.2.1 6 j) (c : Int32) (F : Nat) : ∀ (e j : Nat), j + e = a → M_correct_L162 (F + e) c (Int32.ofNat j) Mr = M_correct_L162 F c (Int32.ofNat a) Mr := by
  intro e
  induction e with
  | zero => intro j hj; rw [show j = a by omega]; rfl
  | succ e ih =>
    intro j hj
    rw [← ih (j + 1) (by omega)]
    show M_correct_b162 (M_correct_L162 (F + e)) _ _ _ = _
    unfold M_correct_b162
    rw [hc, if_neg (by rw [of_le (by omega) (by omega)]; omega), gd_in (by omega) (by omega), gd_in (by omega) (by omega), gL_of Mr 5 (by omega), gL_of Mr 6 (by omega), hq j (by omega), if_pos rfl, of_s]
theorem copyL {M : Me} (hn : n ≤ 24) (ha : a < n) (hc : M.2.2.1 5 = Int32.ofNat n) (s d : Int32) : ∀ (e i F : Nat) (g : Nat → Int64), i + e = n → e < F → (∀ j, j < i → g j = M.2.1 5 j) → ∃ g', (∀ j, j < n → g' j = M.2.1 5 j) ∧ M_correct_L109 F (Int32.ofNat a) s d (Int32.ofNat i) (uL M 6 g) = Option.bind (M_fill (sI (sI (uL M 6 g') 12 (Int32.ofNat a) s) 13 (Int32.ofNat a) d)) (fun r5 => M_correct_L162 64 (0 : Int32) (0 : Int32) r5) := by
  intro e
  induction e with
  | zero =>
    intro i F g hi hF hg
    obtain ⟨F, rfl⟩ := succ_of hF
    have hi2 : i = n := by omega
    subst hi2
    refine ⟨g, hg, ?_⟩
    show M_correct_b109 _ _ _ _ _ _ = _
    unfold M_correct_b109
    rw [if_pos (show gF (uL M 6 g) 5 ≤ Int32.ofNat i by show M.2.2.1 5 ≤ _; rw [hc]; exact Int32.le_refl _), gd_in (by omega) (by omega), gd_in (by omega) (by omega)]
  | succ e ih =>
    intro i F g hi hF hg
    obtain ⟨F, rfl⟩ := succ_of hF
    obtain ⟨g', k1, k2⟩ := ih (i + 1) F (vp_updL g i (M.2.1 5 i)) (by omega) (by omega) (fun j hj => by
      show (if j = i then _ else g j) = _
      by_cases hji : j = i
      · rw [if_pos hji, hji]
      · rw [if_neg hji]; exact hg j (by omega))
    refine ⟨g', k1, ?_⟩
    rw [← k2]
    show M_correct_b109 _ _ _ _ _ _ = _
    unfold M_correct_b109
    rw [if_neg (show ¬ gF (uL M 6 g) 5 ≤ Int32.ofNat i by show ¬ M.2.2.1 5 ≤ _; rw [hc, of_le (by omega) (by omega)]; omega), gd_in (by omega) (by omega), gd_in (by omega) (by omega), gL_of _ 5 (by omega), of_s, sL_uL, of_cl (by omega)]
    rfl
theorem c96_1 {a s d s0 : Int32} {M : Me} : M_correct_c96 a s d s0 1 M = some (0, sF M 4 1) := by
  unfold M_correct_c96
  rw [refused_1]
  rfl
theorem c96_2 {a s d : Int32} {M : Me} : M_correct_c96 a s d 1 0 M = some (0, sF M 4 2) := by
  unfold M_correct_c96
  rw [refused_2]
  rfl
theorem c73_1 {a s d s0 : Int32} {M : Me} : M_correct_c73 a s d 0 s0 M = some (0, sF M 4 1) := by
  unfold M_correct_c73
  rw [if_pos rfl, c96_1, c96_1, ite_self]
theorem c73_2 {a s d : Int32} {M : Me} : M_correct_c73 a s d 1 0 M = some (0, sF M 4 2) := by
  unfold M_correct_c73
  rw [if_neg (by decide), if_pos rfl, c96_2]
theorem correct_ok {M : Me} (h : Inv M n) (ha : a < n) {s d : Int32} (hs : par s a) (hd : par d a) : ∃ (r : Int32) (Mb M2 : Me), P_replaceParents M (Int32.ofNat a) s d = some (r, Mb) ∧ M_correct_c73 (Int32.ofNat a) s d 1 1 (sL Mb 7 0 r.toInt64) = some (r, M2) ∧ Mb.2.2 = M.2.2 ∧ (∀ z, z = 14 ∨ z = 15 → Mb.1 z = M.1 z) ∧ M2.2.2.1 4 = 0 ∧ M2.2.1 7 = (sL Mb 7 0 r.toInt64).2.1 7 ∧ Inv M2 n := by
  obtain ⟨hB, hA, hP, hL, hK, hI, hD, hJ⟩ := h
  have hn := hB.1
  have hk : (Int32.ofNat a).toNatClampNeg = a := of_cl (by omega)
  have a0 : (sI (sI M 0 (Int32.ofNat a) s) 1 (Int32.ofNat a) d).1 0 = upd (M.1 0) a s := by
    show upd (M.1 0) (Int32.ofNat a).toNatClampNeg s = _
    rw [hk]
  have a1 : (sI (sI M 0 (Int32.ofNat a) s) 1 (Int32.ofNat a) d).1 1 = upd (M.1 1) a d := by
    show upd (M.1 1) (Int32.ofNat a).toNatClampNeg d = _
    rw [hk]
  have ax : ∀ z, ¬ z = 0 → ¬ z = 1 → (sI (sI M 0 (Int32.ofNat a) s) 1 (Int32.ofNat a) d).1 z = M.1 z := fun z h0 h1 => by
    show (if z = 1 then _ else if z = 0 then _ else M.1 z) = _
    rw [if_neg h1, if_neg h0]
  have u0 : ∀ i, i < a → M.1 0 i = upd (M.1 0) a s i := fun i hi => (if_neg (by omega)).symm
  have u1 : ∀ i, i < a → M.1 1 i = upd (M.1 1) a d i := fun i hi => (if_neg (by omega)).symm
  have un : ∀ (f : Nat → Int32) v, upd f a v a = v := fun f v => if_pos rfl
  have ui : ∀ (f : Nat → Int32) v i, ¬ i = a → upd f a v i = f i := fun f v i hi => if_neg hi
  have hPR : PR (upd (M.1 0) a s) (upd (M.1 1) a d) n := fun i hi => by
    by_cases hin : i = a
    · subst hin; rw [un, un]; exact ⟨hs, hd⟩
    · rw [ui _ _ _ hin, ui _ _ _ hin]; exact hP i hi
  have hPR2 : PR (upd (M.1 12) a s) (upd (M.1 13) a d) n := fun i hi => by
    by_cases hin : i = a
    · subst hin; rw [un, un]; exact ⟨hs, hd⟩
    · rw [ui _ _ _ hin, ui _ _ _ hin, (hA i hi).1, (hA i hi).2.1]; exact hP i hi
  have e12 : ∀ i, i < n → upd (M.1 12) a s i = upd (M.1 0) a s i ∧ upd (M.1 13) a d i = upd (M.1 1) a d i := fun i hi => by
    by_cases hin : i = a
    · subst hin; rw [un, un, un, un]; exact ⟨rfl, rfl⟩
    · rw [ui _ _ _ hin, ui _ _ _ hin, ui _ _ _ hin, ui _ _ _ hin]; exact ⟨(hA i hi).1, (hA i hi).2.1⟩
  have eK : Kt (upd (M.1 12) a s) (upd (M.1 13) a d) n = Kt (upd (M.1 0) a s) (upd (M.1 1) a d) n := Kt_ext n (fun i hi => e12 i hi)
  have eKa : Kt (M.1 0) (M.1 1) a = Kt (upd (M.1 0) a s) (upd (M.1 1) a d) a := Kt_ext a (fun i hi => ⟨u0 i hi, u1 i hi⟩)
  have low : ∀ j, j < a → M.2.1 0 j = kp (Kt (upd (M.1 0) a s) (upd (M.1 1) a d) n) (upd (M.1 0) a s j) (upd (M.1 1) a d j) := fun j hj => by
    have hpj := hP j (by omega)
    rw [ui _ _ _ (by omega), ui _ _ _ (by omega), (hI j (by omega)).1, kp_to (n := n) (par_mono hpj.1 (show j ≤ a by omega)) (par_mono hpj.2 (show j ≤ a by omega)) (by omega) hn, kp_to (n := n) (par_mono hpj.1 (show j ≤ a by omega)) (par_mono hpj.2 (show j ≤ a by omega)) (by omega) hn, eKa]
  obtain ⟨r, Mb, b1, b2, b3, b4, b5, b6, b7, b8⟩ := replaceL (n := n) (M := M) (Ma := sI (sI M 0 (Int32.ofNat a) s) 1 (Int32.ofNat a) d) hn (by rw [a0, a1]; exact hPR) hB.2.1 rfl (n - a) a 64 (64 - a) 0 (sI (sI M 0 (Int32.ofNat a) s) 1 (Int32.ofNat a) d) (by omega) (by omega) (by omega) (fun _ _ _ => rfl) rfl (fun _ _ _ => rfl) (by rw [a0, a1]; exact low) (fun _ _ => rfl) (by
      rw [a0, a1, ← eKa]
      intro x y hx hy
      rw [← Kt_to hx hy (show a ≤ n by omega)]
      exact (hK x y (by omega) (by omega)).1) (by
      rw [a0, a1, ← Tb_ext a (fun i hi T => dstep_ext (u0 i hi) (u1 i hi) T), ← Tb_ext a (fun i hi T => fstep_ext (u0 i hi) (u1 i hi) T)]
      intro x hx
      rw [← Tb_to hx (show a ≤ n by omega), ← Tb_to hx (show a ≤ n by omega)]
      exact hD x (by omega))
  rw [a0, a1] at b5 b6 b7 b8
  have hc : M.2.2.1 5 = Int32.ofNat n := hB.2.2
  have mc : (sF (sL Mb 7 0 r.toInt64) 4 0).2.2.1 5 = Int32.ofNat n := by
    show Mb.2.2.1 5 = _
    rw [b3]; exact hc
  obtain ⟨g, g1, g2⟩ := copyL (M := sF (sL Mb 7 0 r.toInt64) 4 0) hn ha mc s d n 0 64 ((sF (sL Mb 7 0 r.toInt64) 4 0).2.1 6) (by omega) (by omega) (fun j hj => absurd hj (by omega))
  rw [uL_id] at g2
  have g3 : ∀ j, j < n → g j = M.2.1 0 j := fun j hj => by
    rw [g1 j hj]
    show Mb.2.1 5 j = _
    rw [b4 5 (by decide) (by decide)]
    show M.2.1 5 j = _
    rw [(hI j hj).1, (hI j hj).2]
  have f12 : (sI (sI (uL (sF (sL Mb 7 0 r.toInt64) 4 0) 6 g) 12 (Int32.ofNat a) s) 13 (Int32.ofNat a) d).1 12 = upd (M.1 12) a s := by
    show upd (Mb.1 12) (Int32.ofNat a).toNatClampNeg s = _
    rw [hk, b2 12 (by decide) (by decide), ax 12 (by decide) (by decide)]
  have f13 : (sI (sI (uL (sF (sL Mb 7 0 r.toInt64) 4 0) 6 g) 12 (Int32.ofNat a) s) 13 (Int32.ofNat a) d).1 13 = upd (M.1 13) a d := by
    show upd (Mb.1 13) (Int32.ofNat a).toNatClampNeg d = _
    rw [hk, b2 13 (by decide) (by decide), ax 13 (by decide) (by decide)]
  have fz : ∀ z, ¬ z = 12 → ¬ z = 13 → (sI (sI (uL (sF (sL Mb 7 0 r.toInt64) 4 0) 6 g) 12 (Int32.ofNat a) s) 13 (Int32.ofNat a) d).1 z = Mb.1 z := fun z h2 h3 => by
    show (if z = 13 then _ else if z = 12 then _ else Mb.1 z) = _
    rw [if_neg h3, if_neg h2]
  obtain ⟨M2, q1, q2, q3, q4⟩ := fillM (n := n) (M := sI (sI (uL (sF (sL Mb 7 0 r.toInt64) 4 0) 6 g) 12 (Int32.ofNat a) s) 13 (Int32.ofNat a) d) hn (by rw [f12, f13]; exact hPR2) mc
  rw [f12, f13] at q3 q4
  have m5 : gF M2 5 = Int32.ofNat n := by unfold gF; rw [q2.2.1]; exact mc
  have n5 : ∀ j, j < n → M2.2.1 5 j = kp (Kt (upd (M.1 0) a s) (upd (M.1 1) a d) n) (upd (M.1 0) a s j) (upd (M.1 1) a d j) := fun j hj => by
    rw [q4 j hj, eK, (e12 j hj).1, (e12 j hj).2]
  have n6 : ∀ j, j < n → M2.2.1 6 j = M.2.1 0 j := fun j hj => by
    rw [q2.2.2 6 (by decide) (by decide)]
    show (uL (sF (sL Mb 7 0 r.toInt64) 4 0) 6 g).2.1 6 j = _
    rw [uL_self]
    exact g3 j hj
  refine ⟨r, Mb, M2, ?_, ?_, b3, fun z hz => by rw [b2 z (by omega) (by omega), ax z (by omega) (by omega)], ?_, ?_, ?_⟩
  · unfold P_replaceParents
    rw [gd_in (by omega) (by omega), gd_in (by omega) (by omega)]
    exact b1
  · unfold M_correct_c73 M_correct_c96
    rw [if_neg (by decide), if_neg (by decide), refused_0, Option.bind_some, if_pos rfl]
    refine g2.trans ?_
    rw [q1, Option.bind_some]
    have k := count_low (a := a) (Mr := M2) hn (by omega) m5 (fun j hj => by rw [n5 j (by omega), n6 j (by omega), low j hj]) 0 (64 - a) a 0 (by omega)
    rw [show 64 - a + a = 64 by omega] at k
    exact k.trans (b8 M2 m5 n5 n6)
  · rw [q2.2.1]; rfl
  · rw [q2.2.2 7 (by decide) (by decide)]; rfl
  · have w : ∀ z, ¬ z = 12 → ¬ z = 13 → M2.1 z = Mb.1 z := fun z h2 h3 => by rw [q2.1, fz z h2 h3]
    have w0 : M2.1 0 = upd (M.1 0) a s := by rw [w 0 (by decide) (by decide), b2 0 (by decide) (by decide), a0]
    have w1 : M2.1 1 = upd (M.1 1) a d := by rw [w 1 (by decide) (by decide), b2 1 (by decide) (by decide), a1]
    have wz : ∀ z, ¬ z = 0 → ¬ z = 1 → ¬ z = 2 → ¬ z = 3 → ¬ z = 12 → ¬ z = 13 → M2.1 z = M.1 z := fun z h0 h1 h2 h3 h4 h5 => by rw [w z h4 h5, b2 z h2 h3, ax z h0 h1]
    have w12 : M2.1 12 = upd (M.1 12) a s := by rw [q2.1, f12]
    have w13 : M2.1 13 = upd (M.1 13) a d := by rw [q2.1, f13]
    have fl : ∀ z, ¬ z = 4 → M2.2.2.1 z = M.2.2.1 z := fun z h4 => by
      rw [q2.2.1]
      show (if z = 4 then _ else Mb.2.2.1 z) = _
      rw [if_neg h4, b3]
      rfl
    have lz : ∀ z, ¬ z = 4 → ¬ z = 5 → ¬ z = 6 → ¬ z = 7 → M2.2.1 z = Mb.2.1 z := fun z h4 h5 h6 h7 => by
      rw [q2.2.2 z h4 h5]
      show (if z = 6 then _ else if z = 7 then _ else Mb.2.1 z) = _
      rw [if_neg h6, if_neg h7]
    refine Inv_mk ⟨hn, ?_, ?_⟩ ?_ ?_ ⟨?_, ?_⟩ ?_ ?_ ?_ ?_ ?_ ⟨?_, ?_⟩
    · rw [fl 0 (by decide)]; exact hB.2.1
    · rw [fl 5 (by decide)]; exact hc
    · intro i hi
      rw [w0, w1, w12, w13, wz 14 (by decide) (by decide) (by decide) (by decide) (by decide) (by decide), wz 15 (by decide) (by decide) (by decide) (by decide) (by decide) (by decide), wz 5 (by decide) (by decide) (by decide) (by decide) (by decide) (by decide), wz 6 (by decide) (by decide) (by decide) (by decide) (by decide) (by decide)]
      exact ⟨(e12 i hi).1, (e12 i hi).2, (hA i hi).2.2⟩
    · intro i hi
      rw [w0, w1]
      exact hPR i hi
    · intro i hi
      rw [wz 7 (by decide) (by decide) (by decide) (by decide) (by decide) (by decide), wz 16 (by decide) (by decide) (by decide) (by decide) (by decide) (by decide)]
      exact hL.1 i hi
    · intro i h1 h2
      rw [wz 16 (by decide) (by decide) (by decide) (by decide) (by decide) (by decide)]
      exact hL.2 i h1 h2
    · intro i j hi hj
      rw [lz _ (by omega) (by omega) (by omega) (by omega), w0, w1]
      exact b6 i j hi hj
    · intro i j hi hj
      rw [w12, w13]
      exact q3 i j hi hj
    · intro i hi
      rw [lz 0 (by decide) (by decide) (by decide) (by decide), w0, w1]
      exact b5 i hi
    · intro i hi
      rw [w12, w13]
      exact q4 i hi
    · intro i hi
      rw [w 2 (by decide) (by decide), w 3 (by decide) (by decide), w0, w1]
      exact b7 i hi
    · intro i hi
      rw [wz 8 (by decide) (by decide) (by decide) (by decide) (by decide) (by decide), wz 19 (by decide) (by decide) (by decide) (by decide) (by decide) (by decide)]
      exact hJ.1 i hi
    · rw [fl 1 (by decide), fl 6 (by decide)]
      exact hJ.2
theorem par_no {p : Int32} (hn : n ≤ 24) (h1 : ¬ p = -1) (h2 : p < 0 ∨ (¬ p < 0 ∧ Int32.ofNat n ≤ p)) : ¬ par p n := fun q => by
  rcases q with q | ⟨k, hk, q⟩
  · exact h1 q
  · rcases h2 with h2 | ⟨-, h2⟩
    · rw [q] at h2; exact of_nlt0 (by omega) h2
    · rw [q, of_le (by omega) (by omega)] at h2; omega
theorem is_ok' {M : Me} (hn : n ≤ 24) (hc : gF M 5 = Int32.ofNat n) (ha : a < n) : M_is M (Int32.ofNat a) = some 1 := by
  have h : IB (sF M 0 (Int32.ofNat n)) n := ⟨hn, rfl, hc⟩
  have k := is_ok h ha
  exact k
theorem correct_front {M M' : Me} (h : Inv M n) (hB5 : gF M' 5 = Int32.ofNat n) (e5 : ∀ i, i < n → M'.1 14 i = M.1 5 i) (e6 : ∀ i, i < n → M'.1 15 i = M.1 6 i) (ha : a < n) {s d : Int32} (hs : par s n) (hd : par d n) : M_correct M' (Int32.ofNat a) s d = if qf M s 0 (M.1 6 a) = 0 ∨ Int32.ofNat a ≤ s ∨ qf M d 1 (M.1 6 a) = 0 ∨ Int32.ofNat a ≤ d then M_correct_c73 (Int32.ofNat a) s d 1 0 M' else M_correct_c73 (Int32.ofNat a) s d 1 1 M' := by
  have hn := h.1.1
  have k : ∀ (p sx : Int32), par p n → M_fits M' p sx (M.1 6 a) (Int32.ofNat a) = some (if qf M p sx (M.1 6 a) = 0 ∨ Int32.ofNat a ≤ p then 0 else 1) := fun p sx hp => by
    rw [fits_v hn e5 e6 hp]
    rcases hp with hp | ⟨k, hk, hp⟩
    · have h1 : qf M p sx (M.1 6 a) = 1 := by unfold qf; rw [if_pos hp]
      rw [if_pos hp, h1, if_neg]
      rintro (q | q)
      · exact absurd q (by decide)
      · rw [hp] at q
        exact absurd (Int32.le_trans (of_0le (k := a) (by omega)) q) (by decide)
    · have hpn : ¬ p = -1 := by rw [hp]; exact of_nm1 (by omega)
      rw [if_neg hpn]
      by_cases h1 : qf M p sx (M.1 6 a) = 0
      · rw [if_pos h1, if_pos (Or.inl h1)]
      · rw [if_neg h1]
        by_cases h2 : Int32.ofNat a ≤ p
        · rw [if_pos h2, if_pos (Or.inr h2)]
        · rw [if_neg h2, if_neg (fun q => q.elim h1 h2)]
  unfold M_correct M_correct_c29
  rw [is_ok' hn hB5 ha, Option.bind_some, if_neg (by decide), isParent_ok' hn hB5 hs, Option.bind_some, if_neg (by decide), isParent_ok' hn hB5 hd, Option.bind_some, if_neg (by decide), if_neg (by decide), gd_in (by omega) (by omega), gd_in (by omega) (by omega), gI_of M' 15 (by omega), e6 a ha, k s 0 hs, Option.bind_some, k d 1 hd, Option.bind_some]
  by_cases h1 : qf M s 0 (M.1 6 a) = 0 ∨ Int32.ofNat a ≤ s
  · rw [if_pos h1, if_pos rfl, if_pos (h1.elim Or.inl (fun q => Or.inr (Or.inl q)))]
  · rw [if_neg h1, if_neg (by decide)]
    by_cases h2 : qf M d 1 (M.1 6 a) = 0 ∨ Int32.ofNat a ≤ d
    · rw [if_pos h2, if_pos rfl, if_pos (Or.inr (Or.inr h2))]
    · rw [if_neg h2, if_neg (by decide), if_neg]
      rintro (q | q | q)
      · exact h1 (Or.inl q)
      · exact h1 (Or.inr q)
      · exact h2 q
theorem par_low {p : Int32} (hn : n ≤ 24) (hp : par p n) (ha : a < n) (h : ¬ Int32.ofNat a ≤ p) : par p a := by
  rcases hp with hp | ⟨k, hk, hp⟩
  · exact Or.inl hp
  · refine Or.inr ⟨k, ?_, hp⟩
    rw [hp, of_le (by omega) (by omega)] at h
    omega
theorem sim_correct {M : Me} (h : Inv M n) (a s d : Int32) : SimI (L_correct M a s d) (fun M1 => M_correct M1 a s d) n := by
  have hn := h.1.1
  have hc : gF M 5 = Int32.ofNat n := h.1.c
  have e5 : ∀ i, i < n → M.1 14 i = M.1 5 i := fun i hi => (h.2.1 i hi).2.2.1
  have e6 : ∀ i, i < n → M.1 15 i = M.1 6 i := fun i hi => (h.2.1 i hi).2.2.2
  rcases isA_cases n hn a with ⟨k, hk, rfl⟩ | ha
  · rcases par_cases n hn s with hs | ⟨s1, s2⟩
    · rcases par_cases n hn d with hd | ⟨d1, d2⟩
      · have e1 : H_correct M (Int32.ofNat k) s d = ab_thrP (H_requireFitParents M s d (M.1 6 k)) (fun r12 => if Int32.ofNat k ≤ s then (some (.error "java/lang/UnsupportedOperationException", M)) else (if d < Int32.ofNat k then (Option.bind (P_replaceParents M (Int32.ofNat k) s d) (fun r17 => some (.ok r17.1, r17.2))) else (some (.error "java/lang/UnsupportedOperationException", M)))) (fun E13 => some (.error E13, M)) := by
          unfold H_correct
          rw [reqA_ok h.1 hk, thrP_ok, orNone_ok h.1 hs, thrP_ok, orNone_ok h.1 hd, thrP_ok, gd_in (by omega) (by omega), gI_of M 6 (by omega)]
        rw [reqFit hn hs hd] at e1
        by_cases hq : qf M s 0 (M.1 6 k) = 0 ∨ Int32.ofNat k ≤ s ∨ qf M d 1 (M.1 6 k) = 0 ∨ Int32.ofNat k ≤ d
        · refine simI_er 2 h ?_ ?_ (by decide)
          · unfold L_correct
            rw [e1]
            by_cases q1 : qf M s 0 (M.1 6 k) = 0
            · rw [if_pos q1]; rfl
            · rw [if_neg q1]
              by_cases q2 : qf M d 1 (M.1 6 k) = 0
              · rw [if_pos q2]; rfl
              · rw [if_neg q2, thrP_ok]
                by_cases q3 : Int32.ofNat k ≤ s
                · rw [if_pos q3]; rfl
                · rw [if_neg q3, if_neg]
                  · rfl
                  · rcases hq with q | q | q | q
                    · exact absurd q q1
                    · exact absurd q q3
                    · exact absurd q q2
                    · exact Int32.not_lt.mpr q
          · show M_correct M _ s d = _
            rw [correct_front h hc e5 e6 hk hs hd, if_pos hq, c73_2]
        · have q1 : ¬ qf M s 0 (M.1 6 k) = 0 := fun q => hq (Or.inl q)
          have q2 : ¬ Int32.ofNat k ≤ s := fun q => hq (Or.inr (Or.inl q))
          have q3 : ¬ qf M d 1 (M.1 6 k) = 0 := fun q => hq (Or.inr (Or.inr (Or.inl q)))
          have q4 : ¬ Int32.ofNat k ≤ d := fun q => hq (Or.inr (Or.inr (Or.inr q)))
          obtain ⟨r, Mb, M2, b1, b2, b3, b4, b5, b6, b7⟩ := correct_ok h hk (par_low hn hs hk q2) (par_low hn hd hk q4)
          refine simI_ok (Mx := Mb) (r := r) (M2 := M2) ?_ ?_ b5 b6 b7
          · unfold L_correct
            rw [e1, if_neg q1, if_neg q3, thrP_ok, if_neg q2, if_pos (Int32.not_le.mp q4), b1]
            rfl
          · show M_correct _ _ s d = _
            rw [correct_front (M' := sL Mb 7 0 r.toInt64) h (by show Mb.2.2.1 5 = _; rw [b3]; exact hc) (fun i hi => by
                show Mb.1 14 i = _
                rw [b4 14 (by omega)]; exact e5 i hi) (fun i hi => by
                show Mb.1 15 i = _
                rw [b4 15 (by omega)]; exact e6 i hi) hk hs hd, if_neg hq]
            exact b2
      · refine simI_er 1 h ?_ ?_ (by decide)
        · unfold L_correct H_correct
          rw [reqA_ok h.1 hk, thrP_ok, orNone_ok h.1 hs, thrP_ok, orNone_no h.1 d1 d2]
          rfl
        · show M_correct M _ s d = _
          unfold M_correct M_correct_c29
          rw [is_ok h.1 hk, Option.bind_some, if_neg (by decide), isParent_ok h.1 hs, Option.bind_some, if_neg (by decide), isParent_no h.1 d1 d2, Option.bind_some, if_pos rfl, if_pos rfl, c73_1]
    · refine simI_er 1 h ?_ ?_ (by decide)
      · unfold L_correct H_correct
        rw [reqA_ok h.1 hk, thrP_ok, orNone_no h.1 s1 s2]
        rfl
      · show M_correct M _ s d = _
        unfold M_correct M_correct_c29
        rw [is_ok h.1 hk, Option.bind_some, if_neg (by decide), isParent_no h.1 s1 s2, Option.bind_some, if_pos rfl, if_pos rfl, c73_1]
  · refine simI_er 1 h ?_ ?_ (by decide)
    · unfold L_correct H_correct
      rw [reqA_no h.1 ha]
      rfl
    · show M_correct M a s d = _
      unfold M_correct M_correct_c29
      rw [is_no h.1 ha, Option.bind_some, if_pos rfl, if_pos rfl, c73_1]
end CORRECT
