/-! from the entry of the law to its loop -/
/-- a cell with its references renamed -/
def ab_ren (σ : Nat → Nat) : ab_E → ab_E
  | .inl a => .inl (a.1, ab_a σ a.2)
  | .inr o => .inr (o.1, o.2.map (ab_v σ))
theorem ab_v_ren {ad σ : Nat → Nat} (v : Value) : ab_v ad (ab_v σ v) = ab_v (fun i => ad (σ i)) v := by cases v <;> rfl
theorem ab_c_ren {cA : FieldType → ClassId} {ad σ : Nat → Nat} (e : ab_E) : ab_c cA ad (ab_ren σ e) = ab_c cA (fun i => ad (σ i)) e := by
  match e with
  | .inl (ty, n, .inl f) => rfl
  | .inl (ty, n, .inr (.inl f)) => rfl
  | .inl (ty, n, .inr (.inr (.inl f))) => rfl
  | .inl (ty, n, .inr (.inr (.inr (.inl f)))) => rfl
  | .inl (ty, n, .inr (.inr (.inr (.inr f)))) =>
    show Sum.inl (cA ty, n, Sum.inr (Sum.inr (Sum.inr (Sum.inr (fun i => ((f i).map σ).map ad))))) = Sum.inl (cA ty, n, Sum.inr (Sum.inr (Sum.inr (Sum.inr (fun i => (f i).map (fun i => ad (σ i)))))))
    have h : (fun i => ((f i).map σ).map ad) = fun i => (f i).map (fun i => ad (σ i)) := by
      funext i
      cases f i <;> rfl
    rw [h]
  | .inr (c, fs) =>
    show Sum.inr (c, (fs.map (ab_v σ)).map (ab_v ad)) = Sum.inr (c, fs.map (ab_v (fun i => ad (σ i))))
    rw [List.map_map]
    have h : (ab_v ad ∘ ab_v σ) = ab_v (fun i => ad (σ i)) := by
      funext v
      exact ab_v_ren v
    rw [h]
/-- the same heap, its cells in another order -/
theorem ab_perm {κ : ab_K} {ad : Nat → Nat} {pc k n : Nat} {lo lo' : List (Nat × Value)} {st st' : List Value} {h h' : ab_H} (σ : Nat → Nat) (hσ : ∀ (q : Nat) (e' : ab_E), h'[q]? = some e' → h[σ q]? = some (ab_ren σ e')) (hinj : ∀ i j : Nat, i < h'.length → j < h'.length → σ i = σ j → i = j) (hlt : ∀ e ∈ h', ab_ltE h'.length e)
    (hlo : ab_lo (fun i => ad (σ i)) lo' = ab_lo ad lo) (hst : st'.map (ab_v (fun i => ad (σ i))) = st.map (ab_v ad)) (htb : ∀ (s : State) (c : Code), κ.2.2.2.2 s c ad → κ.2.2.2.2 s c (fun i => ad (σ i))) (kk : ab_V κ (fun i => ad (σ i)) pc lo' st' h' k n) : ab_V κ ad pc lo st h k n := by
  intro p e s m args below meth c H locs ls N tb w hS hl
  have hget : ∀ (q : Nat) (x : Nat × va_E), (ab_w (ab_k s) (fun i => ad (σ i)) h')[q]? = some x → q < h'.length ∧ (ab_w (ab_k s) ad h)[σ q]? = some x := fun q x hx => by
    simp only [ab_w, List.getElem?_mapIdx] at hx
    cases hq : h'[q]? with
    | none => rw [hq] at hx; cases hx
    | some e' =>
      rw [hq] at hx
      have h1 := hσ q e' hq
      refine ⟨(List.getElem?_eq_some_iff.mp hq).1, ?_⟩
      rw [ab_w_get h1, ab_c_ren]
      exact hx
  have w1 : ab_W κ.1.2.1 κ.1.2.2 (fun i => ad (σ i)) h' s H := by
    refine ⟨fun q x hx => w.1 _ _ (hget q x hx).2, ⟨fun i j x y hi hj hxy => ?_, fun q x hx => w.2.1.2 _ _ (hget q x hx).2⟩, w.2.2.1, fun ty x hx => ?_, hlt⟩
    · have h1 := hget i x hi
      have h2 := hget j y hj
      exact hinj i j h1.1 h2.1 (w.2.1.1 _ _ _ _ h1.2 h2.2 hxy)
    · obtain ⟨q, hq⟩ := List.getElem?_of_mem hx
      exact w.2.2.2.1 ty _ (List.mem_of_getElem? (hσ q _ hq))
  have h9 := kk p e s m args below meth c H locs ls N (htb s c tb) w1 hS (by rw [hlo]; exact hl)
  rw [hst] at h9
  exact h9
def M0 : Me := (fun a => if a = 8 then (fun j => if j < 24 then -1 else 0) else if a = 19 then (fun j => if j < 24 then -1 else 0) else fun _ => 0, fun _ _ => 0, fun _ => 0, fun _ => 0)

theorem we_16 : Cond.classLink "HerdKinshipLaw" 8 "HerdKinship" ∈ ab_G := ab_Gi 54 (by decide +kernel) (by decide +kernel)
theorem we_17 : Cond.instantiable "HerdKinship" 7 ∈ ab_G := ab_Gi 55 (by decide +kernel) (by decide +kernel)
theorem we_1 : Cond.initialized "HerdKinship" ∈ ab_G := ab_Gi 39 (by decide +kernel) (by decide +kernel)
theorem nw_115 : ab_nw "HerdKinshipLaw" 8 0 [.null, .null, .null, .null, .null, .null, .int 0] := ⟨"HerdKinship", T_H, 7, ty_H, rfl, rfl, uw_H, ty_H_ok, we_16, we_17, we_1, by decide +kernel, by intro v hv p hp; subst hp; revert hv; simp⟩
theorem we_590 : Cond.classLink "HerdKinshipLaw" 81 "HerdKinshipModel" ∈ ab_G := ab_Gi 628 (by decide +kernel) (by decide +kernel)
theorem we_591 : Cond.instantiable "HerdKinshipModel" 19 ∈ ab_G := ab_Gi 629 (by decide +kernel) (by decide +kernel)
theorem we_5 : Cond.initialized "HerdKinshipModel" ∈ ab_G := ab_Gi 43 (by decide +kernel) (by decide +kernel)
theorem nw_116 : ab_nw "HerdKinshipLaw" 81 3 [.int 0, .int 0, .null, .null, .null, .null, .null, .null, .null, .null, .null, .null, .int 0, .null, .int 0, .null, .null, .null, .null] := ⟨"HerdKinshipModel", T_M, 19, ty_M, rfl, rfl, uw_M, ty_M_ok, we_590, we_591, we_5, by decide +kernel, by intro v hv p hp; subst hp; revert hv; simp⟩
theorem we_18 : Cond.methodLink "HerdKinshipLaw" 80 ⟨"HerdKinship", "<init>", "()V"⟩ ∈ ab_G := ab_Gi 56 (by decide +kernel) (by decide +kernel)
theorem we_592 : Cond.methodLink "HerdKinshipLaw" 83 ⟨"HerdKinshipModel", "<init>", "()V"⟩ ∈ ab_G := ab_Gi 630 (by decide +kernel) (by decide +kernel)
def hq_end : ab_H := (.inr (0, .ref 1 :: .ref 34 :: .ref 40 :: .ref 41 :: .ref 42 :: .ref 43 :: .int 0 :: []) :: .inr (1, .int 0 :: .ref 2 :: .ref 3 :: .ref 4 :: .ref 5 :: .ref 6 :: .ref 31 :: .ref 32 :: .ref 33 :: []) :: zI 24 :: zI 24 :: zI 24 :: zI 24 :: zK 7 :: zL 24 :: zL 24 :: zL 24 :: zL 24 :: zL 24 :: zL 24 :: zL 24 :: zL 24 :: zL 24 :: zL 24 :: zL 24 :: zL 24 :: zL 24 :: zL 24 :: zL 24 :: zL 24 :: zL 24 :: zL 24 :: zL 24 :: zL 24 :: zL 24 :: zL 24 :: zL 24 :: zL 24 :: zL 24 :: zL 24 :: zI 24 :: .inr (2, .ref 35 :: .int 0 :: .int 0 :: .long 0 :: .ref 36 :: .ref 37 :: .ref 38 :: .ref 39 :: []) :: zI 5 :: zL 32 :: zI 32 :: zL 32 :: zI 32 :: zI 24 :: zI 24 :: zZ 24 :: zN 24 :: .inr (3, .int 0 :: .int 0 :: .ref 45 :: .ref 46 :: .ref 47 :: .ref 48 :: .ref 49 :: .ref 50 :: .ref 51 :: .ref 52 :: .ref 53 :: .ref 54 :: .int 0 :: .ref 55 :: .int 0 :: .ref 56 :: .ref 57 :: .ref 58 :: .ref 59 :: []) :: zI 24 :: zI 24 :: zI 24 :: zI 24 :: zZ 24 :: zL 576 :: zL 24 :: zL 24 :: zI 24 :: zI 24 :: zN 24 :: zI 5 :: zI 5 :: zI 5 :: zI 24 :: zL 1 :: [])
theorem we_61 : Cond.arrayClass .long ∈ ab_G := ab_Gi 99 (by decide +kernel) (by decide +kernel)
def sgl : List Nat := [0, 1, 34, 44, 6, 2, 3, 4, 5, 33, 40, 41, 42, 43, 35, 37, 39, 45, 46, 47, 48, 49, 53, 54, 55, 56, 57, 58, 59, 31, 32, 36, 38, 50, 51, 52, 60, 7, 8, 9, 10, 11, 12, 13, 14, 15, 16, 17, 18, 19, 20, 21, 22, 23, 24, 25, 26, 27, 28, 29, 30]
def sg (k : Nat) : Nat := (sgl[k]?).getD k
theorem sg_inj : ∀ i, i < 61 → ∀ j, j < 61 → sg i = sg j → i = j := by decide +kernel
theorem sg_kin : ∀ i, i < 24 → sg (37 + i) = 7 + i := by decide +kernel
theorem sg_row : (fun i => (kinf 37 i).map sg) = kinf 7 := by
  funext i
  unfold kinf
  by_cases h : i < 24
  · rw [if_pos h, if_pos h, Option.map_some, sg_kin i h]
  · rw [if_neg h, if_neg h]; rfl
theorem sg_at : ∀ k : Nat, k < 61 → hq_end[sg k]? = ((lay M0)[k]?).map (ab_ren sg)
  | 0, _ => rfl
  | 1, _ => rfl
  | 2, _ => rfl
  | 3, _ => rfl
  | 4, _ => by
    show some (zK 7) = some (.inl (.array .long, 24, .inr (.inr (.inr (.inr (fun i => (kinf 37 i).map sg))))))
    rw [sg_row]
  | 5, _ => rfl
  | 6, _ => rfl
  | 7, _ => rfl
  | 8, _ => rfl
  | 9, _ => rfl
  | 10, _ => rfl
  | 11, _ => rfl
  | 12, _ => rfl
  | 13, _ => rfl
  | 14, _ => rfl
  | 15, _ => rfl
  | 16, _ => rfl
  | 17, _ => rfl
  | 18, _ => rfl
  | 19, _ => rfl
  | 20, _ => rfl
  | 21, _ => rfl
  | 22, _ => rfl
  | 23, _ => rfl
  | 24, _ => rfl
  | 25, _ => rfl
  | 26, _ => rfl
  | 27, _ => rfl
  | 28, _ => rfl
  | 29, _ => rfl
  | 30, _ => rfl
  | 31, _ => rfl
  | 32, _ => rfl
  | 33, _ => rfl
  | 34, _ => rfl
  | 35, _ => rfl
  | 36, _ => rfl
  | 37, _ => rfl
  | 38, _ => rfl
  | 39, _ => rfl
  | 40, _ => rfl
  | 41, _ => rfl
  | 42, _ => rfl
  | 43, _ => rfl
  | 44, _ => rfl
  | 45, _ => rfl
  | 46, _ => rfl
  | 47, _ => rfl
  | 48, _ => rfl
  | 49, _ => rfl
  | 50, _ => rfl
  | 51, _ => rfl
  | 52, _ => rfl
  | 53, _ => rfl
  | 54, _ => rfl
  | 55, _ => rfl
  | 56, _ => rfl
  | 57, _ => rfl
  | 58, _ => rfl
  | 59, _ => rfl
  | 60, _ => rfl
  | n + 61, h => absurd h (by omega)
theorem lay_lt (M : Me) : ∀ e ∈ lay M, ab_ltE (lay M).length e := by
  intro e he
  have hlen : (lay M).length = 61 := rfl
  rw [hlen]
  simp only [lay, List.mem_cons, List.not_mem_nil, or_false] at he
  rcases he with h | h | h | h | h | h | h | h | h | h | h | h | h | h | h | h | h | h | h | h | h | h | h | h | h | h | h | h | h | h | h | h | h | h | h | h | h | h | h | h | h | h | h | h | h | h | h | h | h | h | h | h | h | h | h | h | h | h | h | h | h
  · subst h; intro v hv p hp; subst hp; simp at hv; rcases hv with h | h | h | h | h | h <;> (rw [h]; decide)
  · subst h; intro v hv p hp; subst hp; simp at hv; rcases hv with h | h | h | h | h | h | h | h <;> (rw [h]; decide)
  · subst h; intro v hv p hp; subst hp; simp at hv; rcases hv with h | h | h | h | h <;> (rw [h]; decide)
  · subst h; intro v hv p hp; subst hp; simp at hv; rcases hv with h | h | h | h | h | h | h | h | h | h | h | h | h | h | h <;> (rw [h]; decide)
  · subst h
    intro i p hp
    unfold kinf at hp
    by_cases hi : i < 24
    · rw [if_pos hi] at hp; have h3 := Option.some.inj hp; omega
    · rw [if_neg hi] at hp; cases hp
  · subst h; trivial
  · subst h; trivial
  · subst h; trivial
  · subst h; trivial
  · subst h; trivial
  · subst h; trivial
  · subst h; trivial
  · subst h; trivial
  · subst h; trivial
  · subst h; trivial
  · subst h; trivial
  · subst h; trivial
  · subst h; trivial
  · subst h; trivial
  · subst h; trivial
  · subst h; trivial
  · subst h; trivial
  · subst h; trivial
  · subst h; trivial
  · subst h; trivial
  · subst h; trivial
  · subst h; trivial
  · subst h; trivial
  · subst h; trivial
  · subst h; trivial
  · subst h; trivial
  · subst h; trivial
  · subst h; trivial
  · subst h; trivial
  · subst h; trivial
  · subst h; trivial
  · subst h; trivial
  · subst h; trivial
  · subst h; trivial
  · subst h; trivial
  · subst h; trivial
  · subst h; trivial
  · subst h; trivial
  · subst h; trivial
  · subst h; trivial
  · subst h; trivial
  · subst h; trivial
  · subst h; trivial
  · subst h; trivial
  · subst h; trivial
  · subst h; trivial
  · subst h; trivial
  · subst h; trivial
  · subst h; trivial
  · subst h; trivial
  · subst h; trivial
  · subst h; trivial
  · subst h; trivial
  · subst h; trivial
  · subst h; trivial
  · subst h; trivial
set_option maxHeartbeats 20000000 in
theorem law_entry {l : Launch} {D : va_G} {B b L : Nat} {xs : Nat → Int32} {ad : Nat → Nat} {r : Int32 × Me} (hr : r.1 = 1) (hyp : L_law_L23 xs L 513 0 M0 = some r) : ab_V (ab_kl l D B b L xs) ad 0 [(0, .ref 999)] [] [] 0 0 := by
  refine ab_newO 3 1 7 d_L_law_0 rfl nw_115 (fun s c ad9 hs9 h9 => ⟨(hs9 999 (Or.inr (by decide))).trans h9.1, h9.2⟩) (fun ad1 hs1 => ?_)
  show ab_V _ _ 3 _ _ (.inr (0, .null :: .null :: .null :: .null :: .null :: .null :: .int 0 :: []) :: []) 1 7
  refine ab_dupr 4 d_L_law_3 ?_
  refine ab_callI (h' := (.inr (0, .ref 1 :: .ref 34 :: .ref 40 :: .ref 41 :: .ref 42 :: .ref 43 :: .int 0 :: []) :: .inr (1, .int 0 :: .ref 2 :: .ref 3 :: .ref 4 :: .ref 5 :: .ref 6 :: .ref 31 :: .ref 32 :: .ref 33 :: []) :: zI 24 :: zI 24 :: zI 24 :: zI 24 :: zK 7 :: zL 24 :: zL 24 :: zL 24 :: zL 24 :: zL 24 :: zL 24 :: zL 24 :: zL 24 :: zL 24 :: zL 24 :: zL 24 :: zL 24 :: zL 24 :: zL 24 :: zL 24 :: zL 24 :: zL 24 :: zL 24 :: zL 24 :: zL 24 :: zL 24 :: zL 24 :: zL 24 :: zL 24 :: zL 24 :: zL 24 :: zI 24 :: .inr (2, .ref 35 :: .int 0 :: .int 0 :: .long 0 :: .ref 36 :: .ref 37 :: .ref 38 :: .ref 39 :: []) :: zI 5 :: zL 32 :: zI 32 :: zL 32 :: zI 32 :: zI 24 :: zI 24 :: zZ 24 :: zN 24 :: [])) 7 44 1021 d_L_law_4 rfl rfl ok_H_init we_18 c_H_init (fun s c ad9 hs9 h9 => ⟨(hs9 999 (Or.inr (by decide))).trans h9.1, h9.2⟩) (fun ad2 hs2 => ?_)
  refine ab_astore_n 8 [(1, _), (0, _)] d_L_law_7 rfl ?_
  refine ab_newO 11 45 1040 d_L_law_8 rfl nw_116 (fun s c ad9 hs9 h9 => ⟨(hs9 999 (Or.inr (by decide))).trans h9.1, h9.2⟩) (fun ad3 hs3 => ?_)
  show ab_V _ _ 11 _ _ (.inr (0, .ref 1 :: .ref 34 :: .ref 40 :: .ref 41 :: .ref 42 :: .ref 43 :: .int 0 :: []) :: .inr (1, .int 0 :: .ref 2 :: .ref 3 :: .ref 4 :: .ref 5 :: .ref 6 :: .ref 31 :: .ref 32 :: .ref 33 :: []) :: zI 24 :: zI 24 :: zI 24 :: zI 24 :: zK 7 :: zL 24 :: zL 24 :: zL 24 :: zL 24 :: zL 24 :: zL 24 :: zL 24 :: zL 24 :: zL 24 :: zL 24 :: zL 24 :: zL 24 :: zL 24 :: zL 24 :: zL 24 :: zL 24 :: zL 24 :: zL 24 :: zL 24 :: zL 24 :: zL 24 :: zL 24 :: zL 24 :: zL 24 :: zL 24 :: zL 24 :: zI 24 :: .inr (2, .ref 35 :: .int 0 :: .int 0 :: .long 0 :: .ref 36 :: .ref 37 :: .ref 38 :: .ref 39 :: []) :: zI 5 :: zL 32 :: zI 32 :: zL 32 :: zI 32 :: zI 24 :: zI 24 :: zZ 24 :: zN 24 :: .inr (3, .int 0 :: .int 0 :: .null :: .null :: .null :: .null :: .null :: .null :: .null :: .null :: .null :: .null :: .int 0 :: .null :: .int 0 :: .null :: .null :: .null :: .null :: []) :: []) 45 1040
  refine ab_dupr 12 d_L_law_11 ?_
  refine ab_callI (h' := (.inr (0, .ref 1 :: .ref 34 :: .ref 40 :: .ref 41 :: .ref 42 :: .ref 43 :: .int 0 :: []) :: .inr (1, .int 0 :: .ref 2 :: .ref 3 :: .ref 4 :: .ref 5 :: .ref 6 :: .ref 31 :: .ref 32 :: .ref 33 :: []) :: zI 24 :: zI 24 :: zI 24 :: zI 24 :: zK 7 :: zL 24 :: zL 24 :: zL 24 :: zL 24 :: zL 24 :: zL 24 :: zL 24 :: zL 24 :: zL 24 :: zL 24 :: zL 24 :: zL 24 :: zL 24 :: zL 24 :: zL 24 :: zL 24 :: zL 24 :: zL 24 :: zL 24 :: zL 24 :: zL 24 :: zL 24 :: zL 24 :: zL 24 :: zL 24 :: zL 24 :: zI 24 :: .inr (2, .ref 35 :: .int 0 :: .int 0 :: .long 0 :: .ref 36 :: .ref 37 :: .ref 38 :: .ref 39 :: []) :: zI 5 :: zL 32 :: zI 32 :: zL 32 :: zI 32 :: zI 24 :: zI 24 :: zZ 24 :: zN 24 :: .inr (3, .int 0 :: .int 0 :: .ref 45 :: .ref 46 :: .ref 47 :: .ref 48 :: .ref 49 :: .ref 50 :: .ref 51 :: .ref 52 :: .ref 53 :: .ref 54 :: .int 0 :: .ref 55 :: .int 0 :: .ref 56 :: .ref 57 :: .ref 58 :: .ref 59 :: []) :: zI 24 :: zI 24 :: zI 24 :: zI 24 :: zZ 24 :: zL 576 :: zL 24 :: zL 24 :: zI 24 :: zI 24 :: zN 24 :: zI 5 :: zI 5 :: zI 5 :: zI 24 :: [])) 15 60 1895 d_L_law_12 rfl rfl ok_M_init we_592 c_M_init (fun s c ad9 hs9 h9 => ⟨(hs9 999 (Or.inr (by decide))).trans h9.1, h9.2⟩) (fun ad4 hs4 => ?_)
  refine ab_astore_n 16 [(2, _), (1, _), (0, _)] d_L_law_15 rfl ?_
  refine ab_iconst 17 d_L_law_16 (1 : Int32) (by decide) ?_
  refine ab_newA (K := 1) (ty := .long) (1, .inr (.inl (fun _ => 0))) 19 61 1896 d_L_law_17 rfl rfl we_61 (fun _ => rfl) (fun _ => rfl) trivial ha_long (fun s c ad9 hs9 h9 => ⟨(hs9 999 (Or.inr (by decide))).trans h9.1, h9.2⟩) (fun ad5 hs5 => ?_)
  show ab_V _ _ 19 _ _ hq_end 61 1896
  refine ab_astore_n 20 [(3, _), (2, _), (1, _), (0, _)] d_L_law_19 rfl ?_
  refine ab_iconst 21 d_L_law_20 (0 : Int32) (by decide) ?_
  refine ab_istore 23 [(4, _), (3, _), (2, _), (1, _), (0, _)] d_L_law_21 rfl ?_
  refine ab_pick [4, 3, 2, 1, 0] [(0, _), (1, _), (2, _), (3, _), (4, _)] rfl ?_
  refine ab_perm sg (h' := lay M0) (lo' := [(0, .ref 999), (1, .ref 0), (2, .ref 3), (3, .ref 36), (4, .int (0 : Int32))]) (st' := []) ?_ ?_ (lay_lt M0) rfl rfl (fun s c h9 => h9) ?_
  · intro q e' hq
    have hq1 := (List.getElem?_eq_some_iff.mp hq).1
    rw [sg_at q hq1, hq]; rfl
  · intro i j hi hj h9; exact sg_inj i hi j hj h9
  · exact q_L_law_L23 hr xs L 513 61 1896 (by omega) (by omega) 0 M0 hyp
