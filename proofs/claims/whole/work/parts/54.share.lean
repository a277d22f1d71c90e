/-! shares: share, unknown, inHerd -/
theorem uL_uL (M : Me) (a : Nat) (f g : Nat → Int64) : uL (uL M a f) a g = uL M a g := by
  unfold uL
  refine congrArg (fun z => (M.1, z, M.2.2)) ?_
  funext b
  show (if b = a then g else if b = a then f else M.2.1 b) = _
  by_cases h : b = a
  · rw [if_pos h, if_pos h]
  · rw [if_neg h, if_neg h, if_neg h]
theorem uL_self (M : Me) (a : Nat) (f : Nat → Int64) : (uL M a f).2.1 a = f := if_pos rfl
theorem uL_id (M : Me) (a : Nat) : uL M a (M.2.1 a) = M := by
  unfold uL
  have h : (fun b => if b = a then M.2.1 a else M.2.1 b) = M.2.1 := by
    funext b
    by_cases h : b = a
    · rw [if_pos h, h]
    · rw [if_neg h]
  rw [h]
theorem sL_uL (M : Me) (a : Nat) (f : Nat → Int64) (i : Int32) (x : Int64) : sL (uL M a f) a i x = uL M a (vp_updL f i.toNatClampNeg x) := by
  unfold sL
  rw [uL_self, uL_uL]
theorem gL_uL (M : Me) (a : Nat) (f : Nat → Int64) {k : Nat} (hk : k < 2147483648) : gL (uL M a f) a (Int32.ofNat k) = f k := by
  rw [gL_of _ a hk, uL_self]
theorem Ag_uL (M : Me) {a : Nat} (f : Nat → Int64) (ha : scL a = true) : Ag M (uL M a f) := ⟨fun _ _ => rfl, fun b hb => if_neg (ne_sc ha hb), fun _ _ => rfl⟩
def sq (T : Nat → Int64) (p : Int32) : Int64 := if p = -1 then 0 else T p.toNatClampNeg
def shstep (S D : Nat → Int32) (f : Nat) : (Nat → Int64) → Nat → Int64 := fun T i => if i = f then kONE else (sq T (S i) + sq T (D i)) / 2
abbrev SH (S D : Nat → Int32) (f n : Nat) : Nat → Int64 := Tb (shstep S D f) 0 n
def PR (S D : Nat → Int32) (n : Nat) : Prop := ∀ i, i < n → par (S i) i ∧ par (D i) i
section SHARE
variable {M M' : Me} {n : Nat} {S D : Nat → Int32}
theorem sq_low {f : Nat} {T : Nat → Int64} {p : Int32} {i : Nat} (hp : par p i) (hi : i ≤ 24) (hT : ∀ k, k < i → T k = 0) : sq T p = 0 := by
  unfold sq
  rcases hp with hp | ⟨k, hk, hp⟩
  · rw [if_pos hp]
  · rw [hp, if_neg (of_nm1 (by omega)), of_cl (by omega), hT k hk]
theorem sq_to {T T' : Nat → Int64} {p : Int32} {i : Nat} (hp : par p i) (hi : i ≤ 24) (hT : ∀ k, k < i → T k = T' k) : sq T p = sq T' p := by
  unfold sq
  rcases hp with hp | ⟨k, hk, hp⟩
  · rw [if_pos hp, if_pos hp]
  · rw [hp, if_neg (of_nm1 (by omega)), if_neg (of_nm1 (by omega)), of_cl (by omega), hT k hk]
theorem SH_low (hp : PR S D n) (hn : n ≤ 24) {f : Nat} : ∀ i, i < n → i < f → SH S D f n i = 0 := by
  intro i
  induction i using Nat.strongRecOn with
  | ind i ih =>
    intro hi hf
    have hT : ∀ k, k < i → Tb (shstep S D f) 0 i k = 0 := fun k hk => by
      rw [← Tb_to (m := n) hk (by omega)]
      exact ih k hk (by omega) (by omega)
    show Tb (shstep S D f) 0 n i = 0
    rw [Tb_val hi]
    show (if i = f then kONE else (sq (Tb (shstep S D f) 0 i) (S i) + sq (Tb (shstep S D f) 0 i) (D i)) / 2) = 0
    rw [if_neg (by omega), sq_low (f := f) (hp i hi).1 (by omega) hT, sq_low (f := f) (hp i hi).2 (by omega) hT]
    decide
theorem SH_val (hp : PR S D n) (hn : n ≤ 24) {f i : Nat} (hi : i < n) (hf : ¬ i = f) : SH S D f n i = (sq (SH S D f n) (S i) + sq (SH S D f n) (D i)) / 2 := by
  have hT : ∀ k, k < i → Tb (shstep S D f) 0 i k = SH S D f n k := fun k hk => (Tb_to (m := n) hk (by omega)).symm
  show Tb (shstep S D f) 0 n i = _
  rw [Tb_val hi]
  show (if i = f then kONE else (sq (Tb (shstep S D f) 0 i) (S i) + sq (Tb (shstep S D f) 0 i) (D i)) / 2) = _
  rw [if_neg hf, sq_to (hp i hi).1 (by omega) hT, sq_to (hp i hi).2 (by omega) hT]
theorem SH_self {f : Nat} (hf : f < n) : SH S D f n f = kONE := by
  show Tb (shstep S D f) 0 n f = _
  rw [Tb_val hf]
  exact if_pos rfl
theorem upTo_v (hp : PR (M.1 0) (M.1 1) n) (hn : n ≤ 24) {f i : Nat} (hf : f < n) (hi : i ≤ n) {g : Nat → Int64} (hg : ∀ j, f ≤ j → j < i → g j = SH (M.1 0) (M.1 1) f n j) {p : Int32} (hpp : par p i) : P_shareUpTo (uL M 1 g) (Int32.ofNat f) p = some (sq (SH (M.1 0) (M.1 1) f n) p) := by
  unfold P_shareUpTo sq
  rcases hpp with hpp | ⟨k, hk, hpp⟩
  · rw [if_pos hpp, if_neg (by rw [hpp]; exact fun h => absurd (Int32.le_trans (of_0le (k := f) (by omega)) h) (by decide))]
  · rw [hpp, if_neg (of_nm1 (by omega)), of_cl (by omega)]
    by_cases hfk : f ≤ k
    · rw [if_pos ((of_le (by omega) (by omega)).mpr hfk), gd_in (by omega) (by omega), gL_uL M 1 g (by omega), hg k hfk hk]
    · rw [if_neg (fun h => hfk ((of_le (by omega) (by omega)).mp h)), SH_low hp hn k (by omega) (by omega)]
theorem shareL (hp : PR (M.1 0) (M.1 1) n) (hn : n ≤ 24) {f a : Nat} (hf : f < n) (ha : a < n) (hfa : f ≤ a) : ∀ (d i F : Nat) (g : Nat → Int64), i + d = a + 1 → f ≤ i → d < F → (∀ j, f ≤ j → j < i → g j = SH (M.1 0) (M.1 1) f n j) → ∃ g', P_shareOf_L2 F (Int32.ofNat f) (Int32.ofNat a) (Int32.ofNat i) (uL M 1 g) = some (SH (M.1 0) (M.1 1) f n a, uL M 1 g') := by
  intro d
  induction d with
  | zero =>
    intro i F g hi hfi hF hg
    obtain ⟨F, rfl⟩ := succ_of hF
    refine ⟨g, ?_⟩
    show P_shareOf_b2 _ _ _ _ _ = _
    unfold P_shareOf_b2
    rw [if_pos ((of_lt (by omega) (by omega)).mpr (by omega)), upTo_v hp hn hf (show a + 1 ≤ n by omega) (fun j h1 h2 => hg j h1 (by omega)) (Or.inr ⟨a, by omega, rfl⟩), Option.bind_some]
    unfold sq
    rw [if_neg (of_nm1 (by omega)), of_cl (by omega)]
  | succ d ih =>
    intro i F g hi hfi hF hg
    obtain ⟨F, rfl⟩ := succ_of hF
    have hin : i < n := by omega
    show ∃ g', P_shareOf_b2 (P_shareOf_L2 F) (Int32.ofNat f) (Int32.ofNat a) (Int32.ofNat i) (uL M 1 g) = some (SH (M.1 0) (M.1 1) f n a, uL M 1 g')
    unfold P_shareOf_b2
    rw [if_neg (fun h => absurd ((of_lt (by omega) (by omega)).mp h) (by omega)), gd_in (by omega) (by omega), sL_uL, of_cl (by omega), of_s]
    have hup : ∀ x, x = SH (M.1 0) (M.1 1) f n i → ∀ j, f ≤ j → j < i + 1 → vp_updL g i x j = SH (M.1 0) (M.1 1) f n j := fun x hx j h1 h2 => by
      unfold vp_updL
      by_cases hj : j = i
      · rw [if_pos hj, hj, hx]
      · rw [if_neg hj]; exact hg j h1 (by omega)
    by_cases hif : i = f
    · rw [if_pos (by rw [hif])]
      exact ih (i + 1) F _ (by omega) (by omega) (by omega) (hup _ (by rw [hif, SH_self hf]; rfl))
    · rw [if_neg (fun h => hif ((of_eq (by omega) (by omega)).mp h)), gd_in (by omega) (by omega), gI_of _ 0 (by omega)]
      show ∃ g', Option.bind (P_shareUpTo (uL M 1 g) (Int32.ofNat f) (M.1 0 i)) _ = _
      rw [upTo_v hp hn hf (by omega) hg (hp i hin).1, Option.bind_some, gd_in (by omega) (by omega), gI_of _ 1 (by omega)]
      show ∃ g', Option.bind (P_shareUpTo (uL M 1 g) (Int32.ofNat f) (M.1 1 i)) _ = _
      rw [upTo_v hp hn hf (by omega) hg (hp i hin).2, Option.bind_some, gd_in (by omega) (by omega), sL_uL, of_cl (by omega)]
      exact ih (i + 1) F _ (by omega) (by omega) (by omega) (hup _ (SH_val hp hn hin hif).symm)
theorem shareC (hp : PR (M.1 0) (M.1 1) n) (hn : n ≤ 24) {f a : Nat} (hf : f < n) (ha : a < n) : ∃ g', P_shareOf M (Int32.ofNat f) (Int32.ofNat a) = some (SH (M.1 0) (M.1 1) f n a, uL M 1 g') := by
  unfold P_shareOf
  by_cases hfa : f ≤ a
  · have h := shareL hp hn hf ha hfa (a + 1 - f) f 64 (M.2.1 1) (by omega) (by omega) (by omega) (fun j h1 h2 => by omega)
    rw [uL_id] at h
    exact h
  · refine ⟨M.2.1 1, ?_⟩
    rw [uL_id, SH_low hp hn a ha (by omega)]
    show P_shareOf_b2 _ _ _ _ _ = _
    unfold P_shareOf_b2 P_shareUpTo
    rw [if_pos ((of_lt (by omega) (by omega)).mpr (by omega)), if_neg (fun h => hfa ((of_le (by omega) (by omega)).mp h))]
    rfl
theorem rdS {α : Type} {i : Nat} (hi : i < 24) {g T : Nat → Int64} (hg : ∀ j, j < i → g j = T j) {p : Int32} (hp : par p i) (K : Int64 → Option α) : (if (0 : Int32) ≤ p then (gd (inb (Int32.ofNat i) 24) (gd (inb p 24) (K (gL (uL M 6 g) 6 p)))) else K 0) = K (sq T p) := by
  unfold sq
  rcases hp with hp | ⟨k, hk, hp⟩
  · rw [hp, if_neg (by decide), if_pos rfl]
  · rw [hp, if_pos (of_0le (by omega)), gd_in (by omega) (by omega), gd_in (by omega) (by omega), gL_uL M 6 g (by omega), if_neg (of_nm1 (by omega)), of_cl (by omega), hg k hk]
theorem shareML (hc : gF M 5 = Int32.ofNat n) (hp : PR (M.1 12) (M.1 13) n) (hn : n ≤ 24) {f : Nat} (hf : f < n) : ∀ (d i F : Nat) (g : Nat → Int64), i + d = n → d < F → (∀ j, j < i → g j = SH (M.1 12) (M.1 13) f n j) → ∃ g', M_fillShares_L2 F (Int32.ofNat f) (Int32.ofNat i) (uL M 6 g) = some (uL M 6 g') ∧ ∀ j, j < n → g' j = SH (M.1 12) (M.1 13) f n j := by
  intro d
  induction d with
  | zero =>
    intro i F g hi hF hg
    obtain ⟨F, rfl⟩ := succ_of hF
    have hi2 : i = n := by omega
    subst hi2
    refine ⟨g, ?_, hg⟩
    show M_fillShares_b2 _ _ _ _ = _
    unfold M_fillShares_b2
    rw [show gF (uL M 6 g) 5 = gF M 5 from rfl, hc, if_pos (Int32.le_refl _)]
  | succ d ih =>
    intro i F g hi hF hg
    obtain ⟨F, rfl⟩ := succ_of hF
    have hin : i < n := by omega
    have hni : ¬ Int32.ofNat n ≤ Int32.ofNat i := by rw [of_le (by omega) (by omega)]; omega
    show ∃ g', M_fillShares_b2 (M_fillShares_L2 F) (Int32.ofNat f) (Int32.ofNat i) (uL M 6 g) = some (uL M 6 g') ∧ _
    unfold M_fillShares_b2
    rw [show gF (uL M 6 g) 5 = gF M 5 from rfl, hc, if_neg hni, gd_in (by omega) (by omega), gI_of _ 12 (by omega), show (uL M 6 g).1 12 i = M.1 12 i from rfl]
    rw [rdS (M := M) (i := i) (by omega) hg (hp i hin).1 (fun z => M_fillShares_c34 (M_fillShares_L2 F) (Int32.ofNat f) (Int32.ofNat i) z (uL M 6 g))]
    unfold M_fillShares_c34
    rw [gd_in (by omega) (by omega), gI_of _ 13 (by omega), show (uL M 6 g).1 13 i = M.1 13 i from rfl]
    rw [rdS (M := M) (i := i) (by omega) hg (hp i hin).2 (fun z => M_fillShares_c59 (M_fillShares_L2 F) (Int32.ofNat f) (Int32.ofNat i) (sq (SH (M.1 12) (M.1 13) f n) (M.1 12 i)) z (uL M 6 g))]
    unfold M_fillShares_c59
    rw [gd_in (by omega) (by omega), gd_in (by omega) (by omega), sL_uL, sL_uL, of_cl (by omega), of_s]
    have hup : ∀ x, x = SH (M.1 12) (M.1 13) f n i → ∀ j, j < i + 1 → vp_updL g i x j = SH (M.1 12) (M.1 13) f n j := fun x hx j h2 => by
      unfold vp_updL
      by_cases hj : j = i
      · rw [if_pos hj, hj, hx]
      · rw [if_neg hj]; exact hg j (by omega)
    by_cases hif : i = f
    · rw [if_pos (by rw [hif])]
      exact ih (i + 1) F _ (by omega) (by omega) (hup _ (by rw [hif, SH_self hf]; rfl))
    · rw [if_neg (fun h => hif ((of_eq (by omega) (by omega)).mp h))]
      exact ih (i + 1) F _ (by omega) (by omega) (hup _ (SH_val hp hn hin hif).symm)
theorem shareM (h : Inv M n) (g : Ag M M') {f : Nat} (hf : f < n) : ∃ g', M_fillShares M' (Int32.ofNat f) = some (uL M' 6 g') ∧ ∀ j, j < n → g' j = SH (M.1 0) (M.1 1) f n j := by
  have hn := h.1.1
  have hB' := IB_Ag g h
  have hA : ∀ i, i < n → M'.1 12 i = M.1 0 i ∧ M'.1 13 i = M.1 1 i := fun i hi => by
    rw [g.1 12 rfl, g.1 13 rfl]; exact ⟨(h.2.1 i hi).1, (h.2.1 i hi).2.1⟩
  have hp : PR (M'.1 12) (M'.1 13) n := fun i hi => by rw [(hA i hi).1, (hA i hi).2]; exact h.2.2.1 i hi
  have hE : SH (M'.1 12) (M'.1 13) f n = SH (M.1 0) (M.1 1) f n := Tb_ext n (fun i hi T => by unfold shstep; rw [(hA i hi).1, (hA i hi).2])
  have q := shareML (M := M') hB'.c hp hn hf n 0 64 (M'.2.1 6) (by omega) (by omega) (fun j hj => by omega)
  rw [uL_id, hE] at q
  exact q
theorem founder_eq (h : Inv M n) (g : Ag M M') {i : Nat} (hi : i < n) : (P_isFounder M (Int32.ofNat i) = some 0 ∧ M_isFounder M' (Int32.ofNat i) = some 0) ∨ (P_isFounder M (Int32.ofNat i) = some 1 ∧ M_isFounder M' (Int32.ofNat i) = some 1) := by
  have hn := h.1.1
  have e1 : M'.1 12 i = M.1 0 i := by rw [g.1 12 rfl]; exact (h.2.1 i hi).1
  have e2 : M'.1 13 i = M.1 1 i := by rw [g.1 13 rfl]; exact (h.2.1 i hi).2.1
  unfold P_isFounder M_isFounder
  rw [gd_in (by omega) (by omega), gd_in (by omega) (by omega), gd_in (by omega) (by omega), gd_in (by omega) (by omega), gI_of M 0 (by omega), gI_of M 1 (by omega), gI_of M' 12 (by omega), gI_of M' 13 (by omega), e1, e2]
  have hm : ¬ (0 : Int32) ≤ -1 := by decide
  rcases (h.2.2.1 i hi).1 with p1 | ⟨k, hk, p1⟩
  · rcases (h.2.2.1 i hi).2 with p2 | ⟨k2, hk2, p2⟩
    · rw [p1, p2]; simp only [hm, if_true, if_false]; exact Or.inr ⟨trivial, trivial⟩
    · have z1 := of_nm1 (k := k2) (by omega)
      have z2 := of_0le (k := k2) (by omega)
      rw [p1, p2]; simp only [hm, z1, z2, if_true, if_false]; exact Or.inl ⟨trivial, trivial⟩
  · have z1 := of_nm1 (k := k) (by omega)
    have z2 := of_0le (k := k) (by omega)
    rw [p1]; simp only [z1, z2, if_true, if_false]; exact Or.inl ⟨trivial, trivial⟩
theorem Ag_70u (M : Me) (r : Int64) (g1 g2 : Nat → Int64) : Ag M (uL (sF (sL (uL M 1 g1) 7 0 r) 4 0) 6 g2) := Ag_tr (Ag_uL M g1 rfl) (Ag_tr (Ag_70 _ r) (Ag_uL _ g2 rfl))
theorem sim_share (h : Inv M n) (f a : Int32) : SimL (L_share M f a) (fun M1 => M_share M1 f a) n := by
  have hn := h.1.1
  rcases isA_cases n hn f with ⟨i, hi, rfl⟩ | hf
  · rcases isA_cases n hn a with ⟨j, hj, rfl⟩ | hb
    · rcases founder_eq h (Ag_rf M) hi with ⟨q1, q2⟩ | ⟨q1, -⟩
      · refine simL_er 2 h ?_ ?_ (by decide)
        · unfold L_share H_share H_requireFounder
          rw [reqA_ok h.1 hi, thrP_ok, reqA_ok h.1 hj, thrP_ok, q1]
          rfl
        · show M_share _ _ _ = _
          unfold M_share M_share_c21 M_share_c32 M_share_c49
          rw [is_ok h.1 hi, Option.bind_some, if_neg (by decide), is_ok h.1 hj, Option.bind_some, if_neg (by decide), if_neg (by decide), if_neg (by decide), q2, Option.bind_some, if_pos rfl, refused_2]
          rfl
      · obtain ⟨g1, hg1⟩ := shareC h.2.2.1 hn hi hj
        have gA : Ag M (sL (uL M 1 g1) 7 0 (SH (M.1 0) (M.1 1) i n j)) := Ag_tr (Ag_uL M g1 rfl) (Ag_7 _ _)
        have gB : Ag M (sF (sL (uL M 1 g1) 7 0 (SH (M.1 0) (M.1 1) i n j)) 4 0) := Ag_tr gA (Ag_sF _ 0 rfl)
        obtain ⟨g2, hg2, hv⟩ := shareM h gB hi
        have q2 : M_isFounder (sL (uL M 1 g1) 7 0 (SH (M.1 0) (M.1 1) i n j)) (Int32.ofNat i) = some 1 := by
          rcases founder_eq h gA hi with ⟨z1, -⟩ | ⟨-, z2⟩
          · rw [q1] at z1; cases z1
          · exact z2
        refine simL_ok (Mx := uL M 1 g1) (r := SH (M.1 0) (M.1 1) i n j) (M2 := uL (sF (sL (uL M 1 g1) 7 0 (SH (M.1 0) (M.1 1) i n j)) 4 0) 6 g2) ?_ ?_ rfl rfl (Inv_Ag (Ag_70u M _ g1 g2) h)
        · unfold L_share H_share H_requireFounder
          rw [reqA_ok h.1 hi, thrP_ok, reqA_ok h.1 hj, thrP_ok, q1, Option.bind_some, if_neg (by decide), thrP_ok, hg1]
          rfl
        · show M_share _ _ _ = _
          have hB := IB_Ag gA h
          unfold M_share M_share_c21 M_share_c32 M_share_c49
          rw [is_ok hB hi, Option.bind_some, if_neg (by decide), is_ok hB hj, Option.bind_some, if_neg (by decide), if_neg (by decide), if_neg (by decide), q2, Option.bind_some, if_neg (by decide), refused_0, Option.bind_some, if_pos rfl]
          show Option.bind (M_fillShares (sF (sL (uL M 1 g1) 7 0 (SH (M.1 0) (M.1 1) i n j)) 4 0) (Int32.ofNat i)) _ = _
          rw [hg2, Option.bind_some, gd_in (by omega) (by omega), gL_uL _ 6 g2 (by omega), hv j hj]
    · refine simL_er 1 h ?_ ?_ (by decide)
      · unfold L_share H_share
        rw [reqA_ok h.1 hi, thrP_ok, reqA_no h.1 hb]
        rfl
      · show M_share _ _ _ = _
        unfold M_share M_share_c21 M_share_c32 M_share_c49
        rw [is_ok h.1 hi, Option.bind_some, if_neg (by decide), is_no h.1 hb, Option.bind_some, if_pos rfl, if_pos rfl, if_pos rfl, refused_1]
        rfl
  · refine simL_er 1 h ?_ ?_ (by decide)
    · unfold L_share H_share
      rw [reqA_no h.1 hf]
      rfl
    · show M_share _ _ _ = _
      unfold M_share M_share_c21 M_share_c32 M_share_c49
      rw [is_no h.1 hf, Option.bind_some, if_pos rfl, if_pos rfl, if_pos rfl, refused_1]
      rfl
theorem tail_unknown (h : Inv M n) (g : Ag M M') {a : Nat} (ha : a < n) (s : Int64) : ∀ (d i F : Nat) (u : Nat → Int64), i + d = n → a < i → d < F → ∃ u', M_unknown_L32 F (Int32.ofNat a) s (Int32.ofNat i) (uL M' 6 u) = some (s, uL M' 6 u') := by
  have hn := h.1.1
  have hB' := IB_Ag g h
  intro d
  induction d with
  | zero =>
    intro i F u hi hai hF
    obtain ⟨F, rfl⟩ := succ_of hF
    have hi2 : i = n := by omega
    subst hi2
    refine ⟨u, ?_⟩
    show M_unknown_b32 _ _ _ _ _ = _
    unfold M_unknown_b32
    rw [show gF (uL M' 6 u) 5 = gF M' 5 from rfl, hB'.c, if_pos (Int32.le_refl _)]
  | succ d ih =>
    intro i F u hi hai hF
    obtain ⟨F, rfl⟩ := succ_of hF
    have hni : ¬ Int32.ofNat n ≤ Int32.ofNat i := by rw [of_le (by omega) (by omega)]; omega
    have gU : Ag M (uL M' 6 u) := Ag_tr g (Ag_uL M' u rfl)
    show ∃ u', M_unknown_b32 (M_unknown_L32 F) (Int32.ofNat a) s (Int32.ofNat i) (uL M' 6 u) = some (s, uL M' 6 u')
    unfold M_unknown_b32
    rw [show gF (uL M' 6 u) 5 = gF M' 5 from rfl, hB'.c, if_neg hni, of_s]
    rcases founder_eq h gU (show i < n by omega) with ⟨-, q2⟩ | ⟨-, q2⟩
    · rw [q2, Option.bind_some, if_pos rfl]
      exact ih (i + 1) F u (by omega) (by omega) (by omega)
    · obtain ⟨u2, k1, k2⟩ := shareM h gU (show i < n by omega)
      rw [q2, Option.bind_some, if_neg (by decide), k1, Option.bind_some, gd_in (by omega) (by omega), gL_uL _ 6 u2 (by omega), k2 a ha, SH_low h.2.2.1 hn a ha hai, Int64.sub_zero, uL_uL]
      exact ih (i + 1) F u2 (by omega) (by omega) (by omega)
theorem twin_unknown (h : Inv M n) (g : Ag M M') {a : Nat} (ha : a < n) : ∀ (d i F F' : Nat) (s : Int64) (u v : Nat → Int64), i + d = a + 1 → d < F → n - i < F' → ∃ r u' v', P_unknownIn_L7 F (Int32.ofNat a) s (Int32.ofNat i) (uL M 1 u) = some (r, uL M 1 u') ∧ M_unknown_L32 F' (Int32.ofNat a) s (Int32.ofNat i) (uL M' 6 v) = some (r, uL M' 6 v') := by
  have hn := h.1.1
  have hB' := IB_Ag g h
  intro d
  induction d with
  | zero =>
    intro i F F' s u v hi hF hF'
    obtain ⟨F, rfl⟩ := succ_of hF
    obtain ⟨v', hv'⟩ := tail_unknown h g ha s (n - i) i F' v (by omega) (by omega) (by omega)
    refine ⟨s, u, v', ?_, hv'⟩
    show P_unknownIn_b7 _ _ _ _ _ = _
    unfold P_unknownIn_b7
    rw [if_pos ((of_lt (by omega) (by omega)).mpr (by omega))]
  | succ d ih =>
    intro i F F' s u v hi hF hF'
    obtain ⟨F, rfl⟩ := succ_of hF
    obtain ⟨F', rfl⟩ := succ_of hF'
    have hni : ¬ Int32.ofNat n ≤ Int32.ofNat i := by rw [of_le (by omega) (by omega)]; omega
    have gU : Ag M (uL M' 6 v) := Ag_tr g (Ag_uL M' v rfl)
    have hin : i < n := by omega
    show ∃ r u' v', P_unknownIn_b7 (P_unknownIn_L7 F) (Int32.ofNat a) s (Int32.ofNat i) (uL M 1 u) = some (r, uL M 1 u') ∧ M_unknown_b32 (M_unknown_L32 F') (Int32.ofNat a) s (Int32.ofNat i) (uL M' 6 v) = some (r, uL M' 6 v')
    unfold P_unknownIn_b7 M_unknown_b32
    rw [if_neg (fun h => absurd ((of_lt (by omega) (by omega)).mp h) (by omega)), show gF (uL M' 6 v) 5 = gF M' 5 from rfl, hB'.c, if_neg hni, of_s]
    have e0 : P_isFounder (uL M 1 u) (Int32.ofNat i) = P_isFounder M (Int32.ofNat i) := rfl
    rw [e0]
    rcases founder_eq h gU hin with ⟨q1, q2⟩ | ⟨q1, q2⟩
    · rw [q1, q2, Option.bind_some, Option.bind_some, if_pos rfl, if_pos rfl]
      exact ih (i + 1) F F' s u v (by omega) (by omega) (by omega)
    · obtain ⟨v2, k1, k2⟩ := shareM h gU hin
      obtain ⟨u2, k3⟩ := shareC (M := uL M 1 u) h.2.2.1 hn hin ha
      rw [q1, q2, Option.bind_some, Option.bind_some, if_neg (by decide), if_neg (by decide), k1, Option.bind_some, k3, Option.bind_some, gd_in (by omega) (by omega), gL_uL _ 6 v2 (by omega), k2 a ha, uL_uL, uL_uL]
      exact ih (i + 1) F F' _ u2 v2 (by omega) (by omega) (by omega)
theorem sim_unknown (h : Inv M n) (a : Int32) : SimL (L_unknown M a) (fun M1 => M_unknown M1 a) n := by
  have hn := h.1.1
  rcases isA_cases n hn a with ⟨i, hi, rfl⟩ | ha
  · obtain ⟨r, u', v', q1, -⟩ := twin_unknown h (Ag_rf M) hi (i + 1) 0 64 64 1125899906842624 (M.2.1 1) (M.2.1 6) (by omega) (by omega) (by omega)
    have gA : Ag M (sL (uL M 1 u') 7 0 r) := Ag_tr (Ag_uL M u' rfl) (Ag_7 _ _)
    have gB : Ag M (sF (sL (uL M 1 u') 7 0 r) 4 0) := Ag_tr gA (Ag_sF _ 0 rfl)
    obtain ⟨r2, u2, v2, q2, q3⟩ := twin_unknown h gB hi (i + 1) 0 64 64 1125899906842624 (M.2.1 1) ((sF (sL (uL M 1 u') 7 0 r) 4 0).2.1 6) (by omega) (by omega) (by omega)
    rw [q1] at q2
    have hr : r = r2 := congrArg (fun z => (z.getD (0, M)).1) q2
    subst hr
    rw [uL_id] at q1 q3
    refine simL_ok (Mx := uL M 1 u') (r := r) (M2 := uL (sF (sL (uL M 1 u') 7 0 r) 4 0) 6 v2) ?_ ?_ rfl rfl (Inv_Ag (Ag_70u M _ u' v2) h)
    · unfold L_unknown H_unknown P_unknownIn
      rw [reqA_ok h.1 hi, thrP_ok]
      show ab_thrW (Option.bind (P_unknownIn_L7 64 (Int32.ofNat i) 1125899906842624 (Int32.ofNat 0) M) _) _ _ = _
      rw [q1]
      rfl
    · show M_unknown _ _ = _
      have hB := IB_Ag gA h
      unfold M_unknown M_unknown_c14
      rw [is_ok hB hi, Option.bind_some, if_neg (by decide), refused_0, Option.bind_some, if_pos rfl]
      exact q3
  · refine simL_er 1 h ?_ ?_ (by decide)
    · unfold L_unknown H_unknown
      rw [reqA_no h.1 ha]
      rfl
    · show M_unknown _ _ = _
      unfold M_unknown M_unknown_c14
      rw [is_no h.1 ha, Option.bind_some, if_pos rfl, refused_1]
      rfl
theorem twin_inHerd (h : Inv M n) (g : Ag M M') {f : Nat} (hf : f < n) {v : Nat → Int64} (hv : ∀ j, j < n → v j = SH (M.1 0) (M.1 1) f n j) : ∀ (d i F F' : Nat) (s : Int64) (u : Nat → Int64), i + d = n → d < F → d < F' → ∃ r u', H_inHerd_L15 F (Int32.ofNat f) s (Int32.ofNat i) (uL M 1 u) = some (.ok r, uL M 1 u') ∧ M_inHerd_L55 F' s (Int32.ofNat i) (uL M' 6 v) = some (r, uL M' 6 v) := by
  have hn := h.1.1
  have hB' := IB_Ag g h
  intro d
  induction d with
  | zero =>
    intro i F F' s u hi hF hF'
    obtain ⟨F, rfl⟩ := succ_of hF
    obtain ⟨F', rfl⟩ := succ_of hF'
    have hi2 : i = n := by omega
    subst hi2
    refine ⟨s, u, ?_, ?_⟩
    · show H_inHerd_b15 _ _ _ _ _ = _
      unfold H_inHerd_b15
      rw [P_size_v (M := uL M 1 u) h.1, Option.bind_some, if_pos (Int32.le_refl _)]
    · show M_inHerd_b55 _ _ _ _ = _
      unfold M_inHerd_b55
      rw [show gF (uL M' 6 v) 5 = gF M' 5 from rfl, hB'.c, if_pos (Int32.le_refl _)]
  | succ d ih =>
    intro i F F' s u hi hF hF'
    obtain ⟨F, rfl⟩ := succ_of hF
    obtain ⟨F', rfl⟩ := succ_of hF'
    have hni : ¬ Int32.ofNat n ≤ Int32.ofNat i := by rw [of_le (by omega) (by omega)]; omega
    have hin : i < n := by omega
    show ∃ r u', H_inHerd_b15 (H_inHerd_L15 F) (Int32.ofNat f) s (Int32.ofNat i) (uL M 1 u) = some (.ok r, uL M 1 u') ∧ M_inHerd_b55 (M_inHerd_L55 F') s (Int32.ofNat i) (uL M' 6 v) = some (r, uL M' 6 v)
    unfold H_inHerd_b15 M_inHerd_b55
    rw [P_size_v (M := uL M 1 u) h.1, Option.bind_some, if_neg hni, show gF (uL M' 6 v) 5 = gF M' 5 from rfl, hB'.c, if_neg hni, gd_in (by omega) (by omega), gd_in (by omega) (by omega), gd_in (by omega) (by omega), gI_of _ 7 (by omega), gI_of _ 16 (by omega), gL_uL _ 6 v (by omega), of_s]
    have a1 : (uL M 1 u).1 7 i = M.1 7 i := rfl
    have a2 : (uL M' 6 v).1 16 i = M'.1 16 i := rfl
    rw [a1, a2]
    rcases al_cases h hin g with ⟨h1, h2⟩ | ⟨h1, h2⟩
    · obtain ⟨u2, k3⟩ := shareC (M := uL M 1 u) h.2.2.1 hn hf hin
      rw [h1, h2, if_neg (by decide), if_pos rfl, k3, Option.bind_some, hv i hin, uL_uL]
      exact ih (i + 1) F F' _ u2 (by omega) (by omega) (by omega)
    · rw [h1, h2, if_pos rfl, if_neg (by decide)]
      exact ih (i + 1) F F' _ u (by omega) (by omega) (by omega)
theorem sim_inHerd (h : Inv M n) (f : Int32) : SimL (L_inHerd M f) (fun M1 => M_inHerd M1 f) n := by
  have hn := h.1.1
  rcases isA_cases n hn f with ⟨i, hi, rfl⟩ | hf
  · rcases founder_eq h (Ag_rf M) hi with ⟨q1, q2⟩ | ⟨q1, -⟩
    · refine simL_er 2 h ?_ ?_ (by decide)
      · unfold L_inHerd H_inHerd H_requireFounder
        rw [reqA_ok h.1 hi, thrP_ok, q1]
        rfl
      · show M_inHerd _ _ = _
        unfold M_inHerd M_inHerd_c14 M_inHerd_c35
        rw [is_ok h.1 hi, Option.bind_some, if_neg (by decide), Option.bind_some, if_neg (by decide), q2, Option.bind_some, if_pos rfl, refused_2]
        rfl
    · obtain ⟨v0, -, hv0⟩ := shareM h (Ag_rf M) hi
      obtain ⟨r, u', w1, -⟩ := twin_inHerd h (Ag_rf M) hi hv0 n 0 64 64 0 (M.2.1 1) (by omega) (by omega) (by omega)
      have gA : Ag M (sL (uL M 1 u') 7 0 r) := Ag_tr (Ag_uL M u' rfl) (Ag_7 _ _)
      have gB : Ag M (sF (sL (uL M 1 u') 7 0 r) 4 0) := Ag_tr gA (Ag_sF _ 0 rfl)
      obtain ⟨v, hk, hv⟩ := shareM h gB hi
      obtain ⟨r2, u2, w2, w3⟩ := twin_inHerd h gB hi hv n 0 64 64 0 (M.2.1 1) (by omega) (by omega) (by omega)
      rw [w1] at w2
      have hr : r = r2 := by
        have z := congrArg (fun z => match z with | some (Except.ok v, _) => v | _ => (0 : Int64)) w2
        exact z
      subst hr
      rw [uL_id] at w1
      have q2 : M_isFounder (sL (uL M 1 u') 7 0 r) (Int32.ofNat i) = some 1 := by
        rcases founder_eq h gA hi with ⟨z1, -⟩ | ⟨-, z2⟩
        · rw [q1] at z1; cases z1
        · exact z2
      refine simL_ok (Mx := uL M 1 u') (r := r) (M2 := uL (sF (sL (uL M 1 u') 7 0 r) 4 0) 6 v) ?_ ?_ rfl rfl (Inv_Ag (Ag_70u M _ u' v) h)
      · unfold L_inHerd H_inHerd H_requireFounder
        rw [reqA_ok h.1 hi, thrP_ok, q1, Option.bind_some, if_neg (by decide), thrP_ok]
        show ab_thrW (H_inHerd_L15 64 (Int32.ofNat i) 0 (Int32.ofNat 0) M) _ _ = _
        rw [w1]
        rfl
      · show M_inHerd _ _ = _
        have hB := IB_Ag gA h
        unfold M_inHerd M_inHerd_c14 M_inHerd_c35
        rw [is_ok hB hi, Option.bind_some, if_neg (by decide), Option.bind_some, if_neg (by decide), q2, Option.bind_some, if_neg (by decide), refused_0, Option.bind_some, if_pos rfl]
        show Option.bind (M_fillShares (sF (sL (uL M 1 u') 7 0 r) 4 0) (Int32.ofNat i)) _ = _
        rw [hk, Option.bind_some]
        exact w3
  · refine simL_er 1 h ?_ ?_ (by decide)
    · unfold L_inHerd H_inHerd
      rw [reqA_no h.1 hf]
      rfl
    · show M_inHerd _ _ = _
      unfold M_inHerd M_inHerd_c14 M_inHerd_c35
      rw [is_no h.1 hf, Option.bind_some, if_pos rfl, Option.bind_some, if_pos rfl, refused_1]
      rfl
end SHARE
