/-! cells that are made: objects, arrays, arrays of arrays; constructors' contracts -/
def adu (ad : Nat → Nat) (n q : Nat) : Nat → Nat := fun i => if i = n then q else ad i
/-- the same but for the places from a to b -/
def ab_same (a b : Nat) (ad ad' : Nat → Nat) : Prop := ∀ i : Nat, i < a ∨ b ≤ i → ad' i = ad i
def ab_nv (a b : Nat) : Value → Bool
  | .ref k => Nat.blt k a || Nat.ble b k
  | _ => true
theorem ab_v_same {a b : Nat} {ad ad' : Nat → Nat} (hs : ab_same a b ad ad') {v : Value} (hv : ab_nv a b v = true) : ab_v ad' v = ab_v ad v := by
  cases v with
  | ref k =>
    have h1 : (Nat.blt k a || Nat.ble b k) = true := hv
    rw [Bool.or_eq_true] at h1
    have h2 : ad' k = ad k := by
      apply hs
      rcases h1 with h1 | h1
      · exact Or.inl (Nat.le_of_ble_eq_true h1)
      · exact Or.inr (Nat.le_of_ble_eq_true h1)
    show Value.ref (ad' k) = Value.ref (ad k)
    rw [h2]
  | _ => rfl
theorem ab_v_below {a : Nat} {ad ad' : Nat → Nat} (hs : ∀ i, i < a → ad' i = ad i) {v : Value} (hv : ∀ p : Nat, v = .ref p → p < a) : ab_v ad' v = ab_v ad v := by
  cases v with
  | ref k =>
    show Value.ref (ad' k) = Value.ref (ad k)
    rw [hs k (hv k rfl)]
  | _ => rfl
theorem ab_c_below {cA : FieldType → ClassId} {a : Nat} {ad ad' : Nat → Nat} (hs : ∀ i, i < a → ad' i = ad i) {e : ab_E} (he : ab_ltE a e) : ab_c cA ad' e = ab_c cA ad e := by
  match e, he with
  | .inl (ty, n, .inl f), _ => rfl
  | .inl (ty, n, .inr (.inl f)), _ => rfl
  | .inl (ty, n, .inr (.inr (.inl f))), _ => rfl
  | .inl (ty, n, .inr (.inr (.inr (.inl f)))), _ => rfl
  | .inl (ty, n, .inr (.inr (.inr (.inr f)))), he =>
    have h1 : ∀ i p : Nat, f i = some p → p < a := he
    have h2 : (fun i => (f i).map ad') = fun i => (f i).map ad := by
      funext i
      cases hf : f i with
      | none => rfl
      | some p => show some (ad' p) = some (ad p); rw [hs p (h1 i p hf)]
    show Sum.inl (cA ty, n, Sum.inr (Sum.inr (Sum.inr (Sum.inr (fun i => (f i).map ad'))))) = Sum.inl (cA ty, n, Sum.inr (Sum.inr (Sum.inr (Sum.inr (fun i => (f i).map ad)))))
    rw [h2]
  | .inr (c, fs), he =>
    have h1 : ∀ v ∈ fs, ∀ p : Nat, v = .ref p → p < a := he
    have h2 : fs.map (ab_v ad') = fs.map (ab_v ad) := List.map_congr_left fun v hv => ab_v_below hs (h1 v hv)
    show Sum.inr (c, fs.map (ab_v ad')) = Sum.inr (c, fs.map (ab_v ad))
    rw [h2]
theorem ab_w_below {cA : FieldType → ClassId} {ad ad' : Nat → Nat} {h : ab_H} (hs : ∀ i, i < h.length → ad' i = ad i) (hl : ∀ e ∈ h, ab_ltE h.length e) : ab_w cA ad' h = ab_w cA ad h := by
  apply List.ext_getElem?
  intro i
  simp only [ab_w, List.getElem?_mapIdx]
  cases hi : h[i]? with
  | none => rfl
  | some e =>
    have h1 := (List.getElem?_eq_some_iff.mp hi).1
    show some (ad' i, ab_c cA ad' e) = some (ad i, ab_c cA ad e)
    rw [hs i h1, ab_c_below hs (hl e (List.mem_of_getElem? hi))]
theorem ab_ltE_mono {a b : Nat} (h : a ≤ b) {e : ab_E} (he : ab_ltE a e) : ab_ltE b e := by
  match e, he with
  | .inl (ty, n, .inl f), _ => trivial
  | .inl (ty, n, .inr (.inl f)), _ => trivial
  | .inl (ty, n, .inr (.inr (.inl f))), _ => trivial
  | .inl (ty, n, .inr (.inr (.inr (.inl f)))), _ => trivial
  | .inl (ty, n, .inr (.inr (.inr (.inr f)))), he => exact fun i p hp => Nat.lt_of_lt_of_le ((show ∀ i p : Nat, f i = some p → p < a from he) i p hp) h
  | .inr (c, fs), he => exact fun v hv p hp => Nat.lt_of_lt_of_le ((show ∀ v ∈ fs, ∀ p : Nat, v = .ref p → p < a from he) v hv p hp) h
theorem ab_w_app {cA : FieldType → ClassId} {ad : Nat → Nat} {h h2 : ab_H} : ab_w cA ad (h ++ h2) = ab_w cA ad h ++ h2.mapIdx (fun i e => (ad (i + h.length), ab_c cA ad e)) := by
  unfold ab_w
  rw [List.mapIdx_append]
theorem ab_W_same {D : va_G} {B : Nat} {ad ad' : Nat → Nat} {h : ab_H} {U : State} {H : Heap} (hs : ∀ i, i < h.length → ad' i = ad i) (w : ab_W D B ad h U H) : ab_W D B ad' h U H := by
  unfold ab_W at w ⊢
  rw [ab_w_below hs w.2.2.2.2]
  exact w
/-- one cell more, without references -/
theorem ab_W_push {D : va_G} {B : Nat} {ad : Nat → Nat} {h : ab_H} {U : State} {H H1 : Heap} {q : Nat} {e0 : ab_E} (w : ab_W D B ad h U H) (h0 : ab_ltE 0 e0) (hT : ∀ (ty : FieldType) (x : vp_A), e0 = .inl (ty, x) → ab_T U ty)
    (hP : va_P D ab_cl (ab_w (ab_k U) ad h ++ [(q, ab_c (ab_k U) ad e0)]) H1) (hD : va_D (ab_A B) (ab_w (ab_k U) ad h ++ [(q, ab_c (ab_k U) ad e0)])) : ab_W D B (adu ad h.length q) (h ++ [e0]) U H1 := by
  have hs : ∀ i, i < h.length → adu ad h.length q i = ad i := fun i hi => if_neg (by omega)
  have hw : ab_w (ab_k U) (adu ad h.length q) (h ++ [e0]) = ab_w (ab_k U) ad h ++ [(q, ab_c (ab_k U) ad e0)] := by
    rw [ab_w_app, ab_w_below hs w.2.2.2.2]
    have h1 : adu ad h.length q (0 + h.length) = q := if_pos (by omega)
    have h2 : ab_c (ab_k U) (adu ad h.length q) e0 = ab_c (ab_k U) ad e0 := ab_c_below (a := 0) (fun i hi => absurd hi (Nat.not_lt_zero _)) h0
    show _ ++ [(adu ad h.length q (0 + h.length), ab_c (ab_k U) (adu ad h.length q) e0)] = _
    rw [h1, h2]
  refine ⟨by rw [hw]; exact hP, by rw [hw]; exact hD, w.2.2.1, fun ty x hx => ?_, fun e he => ?_⟩
  · rcases List.mem_append.mp hx with h1 | h1
    · exact w.2.2.2.1 ty x h1
    · exact hT ty x (List.mem_singleton.mp h1).symm
  · rw [List.length_append]
    rcases List.mem_append.mp he with h1 | h1
    · exact ab_ltE_mono (by simp) (w.2.2.2.2 e h1)
    · rw [List.mem_singleton.mp h1]; exact ab_ltE_mono (Nat.zero_le _) h0
theorem adu_same {ad : Nat → Nat} {n q : Nat} : ab_same n (n + 1) ad (adu ad n q) := fun i hi => if_neg (by omega)
theorem ab_lo_same {a b : Nat} {ad ad' : Nat → Nat} (hs : ab_same a b ad ad') {lo : List (Nat × Value)} (h : (lo.all fun q => ab_nv a b q.2) = true) : ab_lo ad' lo = ab_lo ad lo := by
  unfold ab_lo
  apply List.map_congr_left
  intro q hq
  rw [ab_v_same hs (List.all_eq_true.mp h q hq)]
theorem ab_st_same {a b : Nat} {ad ad' : Nat → Nat} (hs : ab_same a b ad ad') {st : List Value} (h : (st.all (ab_nv a b)) = true) : st.map (ab_v ad') = st.map (ab_v ad) := by
  apply List.map_congr_left
  intro v hv
  exact ab_v_same hs (List.all_eq_true.mp h v hv)
/-- what is known of 'new' at a place of class own -/
def ab_nw (own : String) (idx ci : Nat) (fs : List Value) : Prop := ∃ (C : String) (T : u_T) (N : Nat) (ty : Nat → FieldType), ab_cl[ci]? = some (C, T, N) ∧ fs.length = N ∧ (∀ w ∈ u_ws C T N, w ∈ ab_G) ∧ (∀ k, k < N → parseFieldDescriptor (T k).2.2.1 = some (ty k)) ∧ Cond.classLink own idx C ∈ ab_G ∧ Cond.instantiable C N ∈ ab_G ∧ Cond.initialized C ∈ ab_G ∧ (∀ j, j < N → defaultValue (ty j) = vp_V fs j) ∧ ∀ v ∈ fs, ∀ p : Nat, v ≠ .ref p
theorem ab_rows {cA : FieldType → ClassId} {ad2 r : Nat → Nat} {n q K : Nat} {cy : ClassId} {f : Nat → va_E} {o : ab_E} {o2 : va_E} (ho : ab_c cA ad2 o = o2) (hq : ad2 n = q) (hr : ∀ i, i < K → ad2 (n + 1 + i) = r i) (hy : cA .long = cy) :
    (o :: List.replicate K (.inl (.long, 24, .inr (.inl (fun _ => 0))))).mapIdx (fun i e => (ad2 (i + n), ab_c cA ad2 e)) = [(q, o2)] ++ va_pl ([] ++ (List.range K).map r) (vr_up f ((List.range K).map r) (.inl (cy, 24, .inr (.inl (fun _ => 0))))) := by
  rw [List.mapIdx_cons, List.singleton_append, Nat.zero_add, hq, ho]
  refine congrArg (fun z => (q, o2) :: z) ?_
  apply List.ext_getElem?
  intro i
  rw [List.getElem?_mapIdx]
  unfold va_pl
  rw [List.nil_append, List.getElem?_map, List.getElem?_map]
  by_cases hi : i < K
  · rw [List.getElem?_replicate_of_lt hi, List.getElem?_range hi, Option.map_some, Option.map_some, Option.map_some, vr_up_in (List.mem_map.mpr ⟨i, List.mem_range.mpr hi, rfl⟩), show i + 1 + n = n + 1 + i by omega, hr i hi]
    show some (r i, Sum.inl (cA .long, _)) = _
    rw [hy]
    rfl
  · rw [List.getElem?_eq_none (by rw [List.length_replicate]; omega), List.getElem?_eq_none (by rw [List.length_range]; omega)]
    rfl
section NEWR
variable {κ : ab_K} {ad : Nat → Nat} {k n pc idx : Nat} {lo : List (Nat × Value)} {st : List Value} {h : ab_H}
theorem ab_newO {ci N : Nat} {fs : List Value} (pc' k' n' : Nat) (hd : decode κ.2.1.2.1 pc = .ok (.new idx, 3)) (hN : h.length = N) (hev : ab_nw κ.2.1.1.cls idx ci fs) (htb : ∀ (s : State) (c : Code) (ad' : Nat → Nat), ab_same N (N + 1) ad ad' → κ.2.2.2.2 s c ad → κ.2.2.2.2 s c ad')
    (kk : ∀ ad' : Nat → Nat, ab_same N (N + 1) ad ad' → ab_V κ ad' pc' lo (.ref N :: st) (h ++ [.inr (ci, fs)]) k' n')
    (hlo : (lo.all fun q => ab_nv N (N + 1) q.2) = true := by rfl) (hst : (st.all (ab_nv N (N + 1))) = true := by rfl) (hc : Nat.ble (k + 1) κ.2.2.1.cells = true := by rfl) (hs : Nat.ble (n + fs.length) κ.2.2.1.slots = true := by rfl) (hk' : k + 1 = k' := by rfl) (hn' : n + fs.length = n' := by rfl) (hp : pc + 3 = pc' := by rfl) : ab_V κ ad pc lo st h k n := by
  subst hp
  subst hk'
  subst hN
  obtain ⟨C, T, NN, ty, f1, f2, f3, f4, f5, f6, f7, f8, f9⟩ := hev
  subst f2
  subst hn'
  intro p e s m args below meth c H locs ls N tb w hS hl
  have ok := N.2.2.2.2.2.1
  have hsz : κ.1.2.2 ≤ s.heap.size := N.2.2.2.2.2.2.2.2.2.1
  have hmap : fs.map (ab_v ad) = fs := by
    have h1 : ∀ v ∈ fs, ab_v ad v = v := fun v hv => by
      cases v with
      | ref p => exact absurd rfl (f9 _ hv p)
      | _ => rfl
    rw [List.map_congr_left h1, List.map_id']
  refine va_new (Ts := ab_G) (own := κ.2.1.1.cls) (ci := ci) (fs := fs) N.1 N.2.1 ok f3 ty f4 N.2.2.2.2.1 (ok _ f5) (ok _ f6) (ok _ f7) w.2.2.1 w.1 w.2.1 hS (fun q hq => Nat.le_trans hsz hq) f1 (fun j hj => f8 j hj) (Nat.le_of_ble_eq_true hc) (Nat.le_of_ble_eq_true hs) hd (fun q H1 hP hD hS1 => ?_)
  have hc9 : ab_c (ab_k s) ad (.inr (ci, fs)) = .inr (ci, fs) := by show Sum.inr (ci, fs.map (ab_v ad)) = _; rw [hmap]
  have hsm := adu_same (ad := ad) (n := h.length) (q := q)
  have w1 : ab_W κ.1.2.1 κ.1.2.2 (adu ad h.length q) (h ++ [.inr (ci, fs)]) s H1 := ab_W_push w (fun v hv p hp => absurd hp (f9 v hv p)) (fun ty x hx => nomatch hx) (by rw [hc9]; exact hP) (by rw [hc9]; exact hD)
  have h9 := kk (adu ad h.length q) hsm p e s m args below meth c H1 locs ls N (htb s c _ hsm tb) w1 hS1 (by rw [ab_lo_same hsm hlo]; exact hl)
  have e9 : (Value.ref h.length :: st).map (ab_v (adu ad h.length q)) = .ref q :: st.map (ab_v ad) := by
    rw [List.map_cons, ab_st_same hsm hst]
    show Value.ref (adu ad h.length q h.length) :: _ = _
    rw [show adu ad h.length q h.length = q from if_pos rfl]
  rw [e9] at h9
  exact h9
theorem ab_newA {N K : Nat} {ty : FieldType} {atype : ArrayType} {x : Int32} (z : vp_A) (pc' k' n' : Nat) (hd : decode κ.2.1.2.1 pc = .ok (.newarray atype, 2)) (hN : h.length = N) (hty : newarray.typeOf atype = ty) (harr : Cond.arrayClass (newarray.typeOf atype) ∈ ab_G)
    (hz : ∀ cA : ClassId, vp_cell cA z = arrV cA K (fun _ => defaultValue ty)) (hza : ∀ ad : Nat → Nat, ab_a ad z = z) (hzl : ab_ltE 0 (.inl (ty, z))) (hra : ∀ (U : State) (cA : ClassId), va_RA U cA ty → U.vm.findClass ("[" ++ ty.toString) = some cA) (htb : ∀ (s : State) (c : Code) (ad' : Nat → Nat), ab_same N (N + 1) ad ad' → κ.2.2.2.2 s c ad → κ.2.2.2.2 s c ad')
    (kk : ∀ ad' : Nat → Nat, ab_same N (N + 1) ad ad' → ab_V κ ad' pc' lo (.ref N :: st) (h ++ [.inl (ty, z)]) k' n') (hx0 : ¬ x < 0 := by decide) (hxK : x.toNatClampNeg = K := by decide) (hby : K * componentBytes ty ≤ 536870912 := by decide)
    (hlo : (lo.all fun q => ab_nv N (N + 1) q.2) = true := by rfl) (hst : (st.all (ab_nv N (N + 1))) = true := by rfl) (hc : Nat.ble (k + 1) κ.2.2.1.cells = true := by rfl) (hs : Nat.ble (n + K) κ.2.2.1.slots = true := by rfl) (hk' : k + 1 = k' := by rfl) (hn' : n + K = n' := by rfl) (hp : pc + 2 = pc' := by rfl) : ab_V κ ad pc lo (.int x :: st) h k n := by
  subst hp
  subst hk'
  subst hn'
  subst hN
  intro p e s m args below meth c H locs ls N tb w hS hl
  have ok := N.2.2.2.2.2.1
  have hsz : κ.1.2.2 ≤ s.heap.size := N.2.2.2.2.2.2.2.2.2.1
  refine va_newa (tys := []) (a0 := z) N.1 N.2.1 (ok _ harr) hty w.2.2.1 w.1 w.2.1 hS (fun q hq => Nat.le_trans hsz hq) hz hx0 hxK hby (Nat.le_of_ble_eq_true hc) (Nat.le_of_ble_eq_true hs) hd (fun q cA H1 hK hP hD hS1 => ?_)
  have hk1 := hK.2 0 (cA, ty) rfl
  have hkA : ab_k s ty = cA := by
    unfold ab_k
    rw [hra s cA hk1.2]
    rfl
  have hT : ab_T s ty := by
    unfold ab_T
    rw [hkA]
    exact hk1
  have hc9 : ab_c (ab_k s) ad (.inl (ty, z)) = .inl (cA, z) := by show Sum.inl (ab_k s ty, ab_a ad z) = _; rw [hkA, hza]
  have hsm := adu_same (ad := ad) (n := h.length) (q := q)
  have w1 : ab_W κ.1.2.1 κ.1.2.2 (adu ad h.length q) (h ++ [.inl (ty, z)]) s H1 := ab_W_push w hzl (fun ty x hx => by cases hx; exact hT) (by rw [hc9]; exact hP) (by rw [hc9]; exact hD)
  have h9 := kk (adu ad h.length q) hsm p e s m args below meth c H1 locs ls N (htb s c _ hsm tb) w1 hS1 (by rw [ab_lo_same hsm hlo]; exact hl)
  have e9 : (Value.ref h.length :: st).map (ab_v (adu ad h.length q)) = .ref q :: st.map (ab_v ad) := by
    rw [List.map_cons, ab_st_same hsm hst]
    show Value.ref (adu ad h.length q h.length) :: _ = _
    rw [show adu ad h.length q h.length = q from if_pos rfl]
  rw [e9] at h9
  exact h9
/-- a reference into a field -/
def ab_fr (own : String) (idx ci kf : Nat) (ty : FieldType) : Prop := ∃ (C : String) (T : u_T) (N : Nat) (ty0 : Nat → FieldType), ab_cl[ci]? = some (C, T, N) ∧ kf < N ∧ (∀ w ∈ u_ws C T N, w ∈ ab_G) ∧ (T kf).1 = C ∧ Cond.fieldLink own idx C (T kf).2.1 (T kf).2.2.1 ∈ ab_G ∧
  (∀ k, k < N → parseFieldDescriptor (T k).2.2.1 = some (ty0 k)) ∧ (∀ a, a < N → ∀ b, b < N → a ≠ b → (T a).2.1 ≠ (T b).2.1) ∧ parseFieldDescriptor (T kf).2.2.1 = some ty ∧ (T kf).2.2.2 = true ∧ C = own
theorem ab_putr {a ci kf r : Nat} {fs : List Value} {ty : FieldType} {h' : ab_H} (pc' : Nat) (hd : decode κ.2.1.2.1 pc = .ok (.putfield idx, 3)) (hf : ab_fr κ.2.1.1.cls idx ci kf ty) (hi : κ.2.1.1.name = "<init>") (he : h[a]? = some (.inr (ci, fs))) (hh : h.set a (.inr (ci, fs.set kf (.ref r))) = h') (kk : ab_V κ ad pc' lo st h' k n) (hr : Nat.blt r h.length = true := by rfl) (hl0 : Nat.blt kf fs.length = true := by rfl) (hnar : ∀ q : Nat, narrow ty (.ref q) = .ref q := by exact fun _ => rfl) (hfit : ∀ q : Nat, fits ty (.ref q) = true := by exact fun _ => rfl) (hp : pc + 3 = pc' := by rfl) : ab_V κ ad pc lo (.ref r :: .ref a :: st) h k n := by
  subst hp
  subst hh
  obtain ⟨C, T, NN, ty0, f1, f2, f3, f4, f5, f6, f7, f8, f9, f10⟩ := hf
  intro p e s m args below meth c H locs ls N tb w hS hl
  refine va_putF (Ts := ab_G) (own := κ.2.1.1.cls) (ref := C) (fs := fs.map (ab_v ad)) (v := .ref (ad r)) N.1 N.2.1 N.2.2.2.2.2.1 f3 ty0 f6 f7 N.2.2.2.2.1 w.2.2.1 w.1 w.2.1 hS a (ab_w_get he) f1 kf f2 (N.2.2.2.2.2.1 _ f5) (fun x hx => by rw [f4] at hx; exact hx) f9 (N.2.2.2.2.2.2.2.2.1 hi) (f4.trans f10) f8 (hnar _) (hfit _) (by rw [List.length_map]; exact Nat.le_of_ble_eq_true hl0) hd (fun H1 locs1 hP hD hS1 => kk p e s m args below meth c H1 locs1 ls N tb (ab_W_set w he (e' := .inr (ci, fs.set kf (.ref r))) (fun ty y hy => by cases hy) ?_ ?_ ?_) hS1 hl)
  · intro v hv p9 hp9
    rcases List.mem_or_eq_of_mem_set hv with h1 | h1
    · exact w.2.2.2.2 _ (List.mem_of_getElem? he) v h1 p9 hp9
    · rw [h1] at hp9; cases hp9; exact Nat.le_of_ble_eq_true hr
  · show va_P _ _ ((ab_w _ ad h).set a (ad a, .inr (ci, (fs.set kf (.ref r)).map (ab_v ad)))) H1
    rw [List.map_set]; exact hP
  · show va_D _ ((ab_w _ ad h).set a (ad a, .inr (ci, (fs.set kf (.ref r)).map (ab_v ad))))
    rw [List.map_set]; exact hD
theorem ab_objInit {a : Nat} (pc' : Nat) (hd : decode κ.2.1.2.1 pc = .ok (.invokespecial idx, 3)) (hlk : Cond.methodLink κ.2.1.1.cls idx Lib.objectInit ∈ ab_G) (hin : Cond.instanceMethod Lib.objectInit ∈ ab_G) (hcd : Cond.code Lib.objectInit ⟨#[0xb1]⟩ 1 none ∈ ab_G) (kk : ab_V κ ad pc' lo st h k n) (hf : Nat.ble 1 κ.2.2.1.frames = true := by rfl) (hlo : Nat.ble ((st.map fun v => v.category).sum + 12) κ.2.2.1.locals = true := by rfl) (hp : pc + 3 = pc' := by rfl) : ab_V κ ad pc lo (.ref a :: st) h k n := by
  subst hp
  intro p e s m args below meth c H locs ls N tb w hS hl
  have ok := N.2.2.2.2.2.1
  refine W.objInit N.1 N.2.1 N.2.2.2.2.1 (ok _ hlk) (ok _ hin) (ok _ hcd) rfl (by rw [N.2.2.2.1]; exact hl.1) rfl hd (Nat.le_of_ble_eq_true hf) ?_ (kk p e s m args below meth c H locs ls N tb w hS hl)
  show 2 * 0 + ((st.map (ab_v ad)).map fun v => v.category).sum + 12 ≤ _
  rw [ab_cats]
  have h9 := Nat.le_of_ble_eq_true hlo
  omega
theorem ab_mna {N : Nat} (pc' k' n' : Nat) (hd : decode κ.2.1.2.1 pc = .ok (.multianewarray idx 2, 4)) (hN : h.length = N) (hcl : Cond.classLink κ.2.1.1.cls idx "[[J" ∈ ab_G) (harr : Cond.arrayClass .long ∈ ab_G) (htb : ∀ (s : State) (c : Code) (ad' : Nat → Nat), ab_same N (N + 25) ad ad' → κ.2.2.2.2 s c ad → κ.2.2.2.2 s c ad')
    (kk : ∀ ad' : Nat → Nat, ab_same N (N + 25) ad ad' → ab_V κ ad' pc' lo (.ref N :: st) (h ++ (.inl (.array .long, 24, .inr (.inr (.inr (.inr (kinf (N + 1)))))) :: List.replicate 24 (.inl (.long, 24, .inr (.inl (fun _ => 0)))))) k' n')
    (hlo : (lo.all fun q => ab_nv N (N + 25) q.2) = true := by rfl) (hst : (st.all (ab_nv N (N + 25))) = true := by rfl) (hc : Nat.ble (k + 25) κ.2.2.1.cells = true := by rfl) (hs : Nat.ble (n + 600) κ.2.2.1.slots = true := by rfl) (hk' : k + 25 = k' := by rfl) (hn' : n + 600 = n' := by rfl) (hp : pc + 4 = pc' := by rfl) : ab_V κ ad pc lo (.int 24 :: .int 24 :: st) h k n := by
  subst hp
  subst hk'
  subst hn'
  subst hN
  intro p e s m args below meth c H locs ls N tb w hS hl
  have ok := N.2.2.2.2.2.1
  have hsz : κ.1.2.2 ≤ s.heap.size := N.2.2.2.2.2.2.2.2.2.1
  have hAO : va_AOA .long s := N.2.2.2.2.2.2.2.2.2.2.2.2.2.2.2.2
  obtain ⟨cy, kcy, comp, hcy, hky, hkk⟩ := Cond.arrayClass_spec (ok _ harr)
  have hcell : Nat.ble (k + 25) κ.2.2.1.cells = true := hc
  have hz : ∀ c : ClassId, Jvm.Free.Multi.innerC c 24 (defaultValue .long) = vp_cell c (24, .inr (.inl (fun _ => 0))) := fun c => by
    show ({ cls := c, slots := Array.replicate 24 (defaultValue .long), vm := .none } : Cell) = _
    rw [arrV_new]
    rfl
  have hP0 : va_P κ.1.2.1 ab_cl (ab_w (ab_k s) ad h ++ va_pl [] (fun _ => .inl (0, 0, .inl fun _ => 0))) H := by
    show va_P κ.1.2.1 ab_cl (ab_w (ab_k s) ad h ++ []) H
    rw [List.append_nil]; exact w.1
  have hD0 : va_D (ab_A κ.1.2.2) (ab_w (ab_k s) ad h ++ va_pl [] (fun _ => .inl (0, 0, .inl fun _ => 0))) := by
    show va_D (ab_A κ.1.2.2) (ab_w (ab_k s) ad h ++ [])
    rw [List.append_nil]; exact w.2.1
  have hcl2 : (Cond.classLink κ.2.1.1.cls idx ("[" ++ (FieldType.array .long).toString)).before args s = true := by
    rw [show ("[" ++ (FieldType.array FieldType.long).toString) = "[[J" from by decide]
    exact ok _ hcl
  have hc9 := Nat.le_of_ble_eq_true hc
  have hs9 := Nat.le_of_ble_eq_true hs
  refine va_mna (X := ab_w (ab_k s) ad h) (L := []) (f := fun _ => .inl (0, 0, .inl fun _ => 0)) (own := κ.2.1.1.cls) (ty := .long) (cy := cy) (N' := 24) (K' := 24) (z := (24, .inr (.inl (fun _ => 0)))) N.1 N.2.1 N.2.2.2.2.1 hcl2 hAO (ok _ harr) hcy w.2.2.1 hP0 hD0 hS (fun q hq => Nat.le_trans hsz hq) (by decide) (by decide) (by decide) (by decide) (by decide) (by decide) (by decide) rfl rfl (by omega) (by omega) hz hd (fun q r cA H1 hinj hnin hK hP hD hS1 => ?_)
  have hk1 := hK.2 0 (cA, .array .long) rfl
  have hkA : ab_k s (.array .long) = cA := by
    unfold ab_k
    rw [show s.vm.findClass ("[" ++ (FieldType.array FieldType.long).toString) = some cA from hk1.2]
    rfl
  have hTA : ab_T s (.array .long) := by
    unfold ab_T
    rw [hkA]
    exact hk1
  have hky2 : ab_k s .long = cy := by
    unfold ab_k
    rw [hcy]
    rfl
  have hTL : ab_T s .long := by
    unfold ab_T
    rw [hky2]
    exact ⟨fun N9 z9 => ⟨(fun q hq => by cases hq), kcy, hky, comp, hkk⟩, hcy⟩
  let ad2 : Nat → Nat := fun i => if i < h.length then ad i else if i = h.length then q else if i < h.length + 25 then r (i - (h.length + 1)) else ad i
  have hsm : ab_same h.length (h.length + 25) ad ad2 := by
    intro i hi
    show (if i < h.length then ad i else if i = h.length then q else if i < h.length + 25 then r (i - (h.length + 1)) else ad i) = ad i
    rcases hi with h8 | h8
    · rw [if_pos h8]
    · rw [if_neg (by omega), if_neg (by omega), if_neg (by omega)]
  have hq0 : ad2 h.length = q := by
    show (if h.length < h.length then ad h.length else if h.length = h.length then q else _) = q
    rw [if_neg (by omega), if_pos rfl]
  have hr0 : ∀ i, i < 24 → ad2 (h.length + 1 + i) = r i := fun i hi => by
    show (if h.length + 1 + i < h.length then _ else if h.length + 1 + i = h.length then q else if h.length + 1 + i < h.length + 25 then r (h.length + 1 + i - (h.length + 1)) else _) = r i
    rw [if_neg (by omega), if_neg (by omega), if_pos (by omega), show h.length + 1 + i - (h.length + 1) = i by omega]
  have hw : ab_w (ab_k s) ad2 (h ++ (.inl (.array .long, 24, .inr (.inr (.inr (.inr (kinf (h.length + 1)))))) :: List.replicate 24 (.inl (.long, 24, .inr (.inl (fun _ => 0)))))) = (ab_w (ab_k s) ad h ++ [(q, .inl (cA, 24, .inr (.inr (.inr (.inr (fun i => if i < 24 then some (r i) else none))))))]) ++ va_pl ([] ++ (List.range 24).map r) (vr_up (fun _ => .inl (0, 0, .inl fun _ => 0)) ((List.range 24).map r) (.inl (cy, 24, .inr (.inl (fun _ => 0))))) := by
    rw [ab_w_app, ab_w_below (fun i hi => hsm i (Or.inl hi)) w.2.2.2.2, List.append_assoc]
    have h8 : (fun i => (kinf (h.length + 1) i).map ad2) = fun i => if i < 24 then some (r i) else none := by
      funext i
      unfold kinf
      by_cases hi : i < 24
      · rw [if_pos hi, if_pos hi, Option.map_some, hr0 i hi]
      · rw [if_neg hi, if_neg hi]; rfl
    have h7 : ab_c (ab_k s) ad2 (.inl (.array .long, 24, .inr (.inr (.inr (.inr (kinf (h.length + 1))))))) = .inl (cA, 24, .inr (.inr (.inr (.inr (fun i => if i < 24 then some (r i) else none))))) := by
      show Sum.inl (ab_k s (.array .long), 24, Sum.inr (Sum.inr (Sum.inr (Sum.inr (fun i => (kinf (h.length + 1) i).map ad2))))) = _
      rw [h8, hkA]
    rw [ab_rows (K := 24) h7 hq0 hr0 hky2]
  have w1 : ab_W κ.1.2.1 κ.1.2.2 ad2 (h ++ (.inl (.array .long, 24, .inr (.inr (.inr (.inr (kinf (h.length + 1)))))) :: List.replicate 24 (.inl (.long, 24, .inr (.inl (fun _ => 0)))))) s H1 := by
    refine ⟨by rw [hw]; exact hP, by rw [hw]; exact hD, w.2.2.1, fun ty x hx => ?_, fun e he => ?_⟩
    · rcases List.mem_append.mp hx with h1 | h1
      · exact w.2.2.2.1 ty x h1
      · rcases List.mem_cons.mp h1 with h2 | h2
        · cases h2; exact hTA
        · have h3 := List.eq_of_mem_replicate h2
          cases h3; exact hTL
    · have hlen : (h ++ (.inl (.array .long, 24, .inr (.inr (.inr (.inr (kinf (h.length + 1)))))) :: List.replicate 24 (.inl (.long, 24, .inr (.inl (fun _ => 0)))) : ab_H)).length = h.length + 25 := by
        rw [List.length_append, List.length_cons, List.length_replicate]
      rw [hlen]
      rcases List.mem_append.mp he with h1 | h1
      · exact ab_ltE_mono (by omega) (w.2.2.2.2 e h1)
      · rcases List.mem_cons.mp h1 with h2 | h2
        · rw [h2]
          intro i p hp
          unfold kinf at hp
          by_cases hi : i < 24
          · rw [if_pos hi] at hp
            have h3 := Option.some.inj hp
            omega
          · rw [if_neg hi] at hp; cases hp
        · rw [List.eq_of_mem_replicate h2]
          trivial
  have h9 := kk ad2 hsm p e s m args below meth c H1 locs ls N (htb s c _ hsm tb) w1 hS1 (by rw [ab_lo_same hsm hlo]; exact hl)
  have e9 : (Value.ref h.length :: st).map (ab_v ad2) = .ref q :: st.map (ab_v ad) := by
    rw [List.map_cons, ab_st_same hsm hst]
    show Value.ref (ad2 h.length) :: _ = _
    rw [hq0]
  rw [e9] at h9
  exact W.widen (by omega) (by omega) h9
end NEWR
/-! constructors -/
def ab_QcC (D : va_G) (B : Nat) (ad : Nat → Nat) (n0 : Nat) (h' : ab_H) : Array Value → State → Outcome → State → Prop := fun _ st oc t =>
  (oc = .returned none ∧ ∃ ad' : Nat → Nat, (∀ i, i < n0 → ad' i = ad i) ∧ ab_W D B ad' h' t t.heap) ∧ va_F (ab_A B) st t
def ab_MetC (y : ab_Y) (rm : Room) (b : Nat) (h h' : ab_H) : Prop := ∀ (l : Launch) (D : va_G) (B : Nat) (ad : Nat → Nat), l.stackTraces = false →
  Met l y.1 (ab_ws y) rm (va_Pc [.ref (ad b)] (ab_Bc0 D B ad h)) (ab_QcC D B ad h.length h') rm.cells rm.slots (ab_A B)
abbrev ab_kc (l : Launch) (D : va_G) (B : Nat) (ad0 : Nat → Nat) (n0 : Nat) (y : ab_Y) (rm : Room) (h' : ab_H) : ab_K :=
  ((l, D, B), y, rm, (fun below args s => MQ below (ab_QcC D B ad0 n0 h') args s rm.cells rm.slots (ab_A B)), fun _ _ ad => ∀ i, i < n0 → ad i = ad0 i)
theorem ab_startC {y : ab_Y} {rm : Room} {b : Nat} {h h' : ab_H} (hy : plainName y.1.cls = true) (hh : y.2.2.2.2 = none) (hn : 1 ≤ y.2.2.1)
    (body : ∀ (l : Launch) (D : va_G) (B : Nat) (ad : Nat → Nat), ab_V (ab_kc l D B ad h.length y rm h') ad 0 [(0, .ref b)] [] h 0 0) : ab_MetC y rm b h h' := by
  intro l D B ad hl
  refine Met.ofW (cc := y.2.1) (maxL := y.2.2.1) (ret := y.2.2.2.1) (ws' := ab_G) hy (by unfold ab_ws ab_cw; rw [hh]) ?_
  intro p e s m args below meth c s₁ Bd hml hP
  obtain ⟨ha, hB, hX, hw⟩ := hP
  subst ha
  have hts := atoms_spec (ws := ab_ws y) Bd.pre
  rw [lg_entry_eq]
  refine body l D B ad p e s m _ below meth c s.heap [] _ ⟨Bd.exec, Bd.bytes, Bd.returns, hml, findClass_of_methodNamed Bd.named, fun w hw => hts w (List.mem_cons_of_mem _ hw), Bd.notSynchronized, hl, fun hi => (name_of_methodNamed Bd.named Bd.method).1.trans hi, hB, hX⟩ (fun _ _ => rfl) hw va_S.rf ?_
  exact lv_entry [.ref (ad b)] (n := y.2.2.1) hn
theorem ab_returnC {l : Launch} {D : va_G} {B : Nat} {ad0 ad : Nat → Nat} {n0 : Nat} {y : ab_Y} {rm : Room} {h h' : ab_H} {pc k n : Nat} {lo : List (Nat × Value)} (hd : decode y.2.1 pc = .ok (.return_, 1)) (hr : y.2.2.2.1 = none) (hh : h = h') (hk : k ≤ rm.cells) (hn : n ≤ rm.slots) : ab_V (ab_kc l D B ad0 n0 y rm h') ad pc lo [] h k n := by
  subst hh
  intro p e s m args below meth c H locs ls N tb w hS hl
  refine W.widen hk hn (W.vret N.1 N.2.1 (N.2.2.1.trans hr) (fun t ht hW => ⟨⟨rfl, ad, tb, ?_⟩, hS.F ht⟩) (fun q hq => hS.2.2 q hq) hd N.2.2.2.2.2.2.1)
  rw [ht]
  exact ab_W_moved hW.alike w
def ab_okI (y : ab_Y) : Prop :=
  ab_cw y ∈ ab_G ∧ Cond.initialized y.1.cls ∈ ab_G ∧ (y.1.cls ≠ "java/lang/invoke/MethodHandle" ∧ y.1.cls ≠ "java/lang/invoke/VarHandle") ∧ (parseMethodDescriptor y.1.desc).map (fun d => d.parameters.length) = some 0 ∧ Cond.instanceMethod y.1 ∈ ab_G ∧ y.1.name = "<init>" ∧ y.2.2.2.2 = none ∧ y.2.2.2.1 = none
theorem ab_callI {κ : ab_K} {ad : Nat → Nat} {k n pc idx : Nat} {lo : List (Nat × Value)} {h h' : ab_H} {y : ab_Y} {rm : Room} {rest : List Value} {b N N' : Nat} (pc' k' n' : Nat) (hd : decode κ.2.1.2.1 pc = .ok (.invokespecial idx, 3)) (hN : h.length = N) (hN' : h'.length = N') (hy : ab_okI y) (hlk : Cond.methodLink κ.2.1.1.cls idx y.1 ∈ ab_G) (hM : ab_MetC y rm b h h')
    (htb : ∀ (s : State) (c : Code) (ad' : Nat → Nat), ab_same N N' ad ad' → κ.2.2.2.2 s c ad → κ.2.2.2.2 s c ad')
    (kk : ∀ ad' : Nat → Nat, ab_same N N' ad ad' → ab_V κ ad' pc' lo rest h' k' n')
    (hlo : (lo.all fun q => ab_nv N N' q.2) = true := by rfl) (hst : (rest.all (ab_nv N N')) = true := by rfl) (hR : Nat.ble (rm.frames + 1) κ.2.2.1.frames = true ∧ Nat.ble (8 + (y.2.2.1 + 11) + rm.locals) κ.2.2.1.locals = true := by exact ⟨rfl, rfl⟩) (hW : Nat.ble (rest.map fun v => v.category).sum 8 = true := by rfl) (hf : Nat.ble (k + rm.cells) κ.2.2.1.cells = true ∧ Nat.ble (n + rm.slots) κ.2.2.1.slots = true := by exact ⟨rfl, rfl⟩) (hk' : k + rm.cells = k' := by rfl) (hn' : n + rm.slots = n' := by rfl) (hp : pc + 3 = pc' := by rfl) : ab_V κ ad pc lo (.ref b :: rest) h k n := by
  subst hp
  subst hk'
  subst hn'
  subst hN
  subst hN'
  obtain ⟨y1, y2, y3, y4, y5, y6, y7, y8⟩ := hy
  intro p e s m args below meth c H locs ls N tb w hS hl
  have ok := N.2.2.2.2.2.1
  have hcw : ab_cw y = Cond.code y.1 y.2.1 y.2.2.1 none := by unfold ab_cw; rw [y7, y8]
  have hr := va_runI (p := p) (l := κ.1.1) (e := e) (R := κ.2.2.1) (below := below) (meth := meth) (locs := locs) (cells := k) (slots := n) (H := H) (Ts := ab_G) (own := κ.2.1.1.cls) (cc := κ.2.1.2.1) (nL := κ.2.1.2.2.1) (index := idx) (y := y.1) (bytes := y.2.1) (maxL := y.2.2.1) (ws := ab_ws y) (rm := rm) (n := 0) (As := []) (b := ad b) (rest := rest.map (ab_v ad)) (g := F0 m pc ls ((.ref b :: rest).map (ab_v ad)))
    ⟨N.1, N.2.1, N.2.2.2.1, N.2.2.2.2.1, ok⟩ (hM κ.1.1 κ.1.2.1 κ.1.2.2 ad N.2.2.2.2.2.2.2.1)
    ⟨⟨rfl, rfl, Nat.le_of_ble_eq_true hR.1, Nat.le_of_ble_eq_true hR.2, ab_pay N y1, by rw [← hcw]; exact List.mem_cons_self, by rw [← hcw]; exact ok _ y1, ok _ y2, y3, ab_len y4, ok _ hlk⟩, y6, ok _ y5⟩
    ⟨ab_blind, fun U hU hW2 => ⟨rfl, ab_pre N w hS hU hW2⟩⟩ rfl rfl hl.1 rfl (by show 2 * 0 + ((rest.map (ab_v ad)).map fun v => v.category).sum ≤ 8; rw [ab_cats]; have h9 := Nat.le_of_ble_eq_true hW; omega) hd ⟨Nat.le_of_ble_eq_true hf.1, Nat.le_of_ble_eq_true hf.2⟩
  intro T hT X
  obtain ⟨v, st₀, t, T', L, h0, X', hL, e1, e2, ⟨⟨hv, ad1, ha1, hw1⟩, hF⟩, sts⟩ := hr T hT X
  cases hv
  obtain ⟨k1, k2, k3⟩ := vx_keep (A0 := ab_A κ.1.2.2) (A1 := ab_A κ.1.2.2) h0 e1 hS (fun _ _ z => z) (fun _ z => z) hL hF
  have hal : s.vm.Alike t.vm := by rw [← e2]; exact X'.warmed.alike
  let ad2 : Nat → Nat := fun i => if i < h'.length then ad1 i else ad i
  have hsm : ab_same h.length h'.length ad ad2 := by
    intro i hi
    show (if i < h'.length then ad1 i else ad i) = ad i
    by_cases h9 : i < h'.length
    · rw [if_pos h9]
      rcases hi with h8 | h8
      · exact ha1 i h8
      · omega
    · rw [if_neg h9]
  have hw2 : ab_W κ.1.2.1 κ.1.2.2 ad2 h' s T'.heap := by
    rw [e1]
    exact ab_W_same (fun i hi => if_pos hi) (ab_W_moved hal.symm hw1)
  obtain ⟨t2, a1, b1⟩ := kk ad2 hsm p e s m args below meth c T'.heap (locs ++ L) ls N (htb s c _ hsm tb) hw2 k3 (by rw [ab_lo_same hsm hlo]; exact hl) T' rfl X'
  refine ⟨t2, sts t2 ?_, b1⟩
  rw [ab_st_same hsm hst] at a1
  exact a1
