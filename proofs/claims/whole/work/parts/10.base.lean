/-! my own words: a heap whose references are places in a list; a frame over it; rules, one an instruction -/
abbrev ab_E : Type := (FieldType × vp_A) ⊕ (Nat × List Value)
abbrev ab_H : Type := List ab_E
def ab_v (ad : Nat → Nat) : Value → Value
  | .ref k => .ref (ad k)
  | v => v
def ab_a (ad : Nat → Nat) (x : vp_A) : vp_A := match x with
  | (n, .inr (.inr (.inr (.inr f)))) => (n, .inr (.inr (.inr (.inr (fun i => (f i).map ad)))))
  | y => y
def ab_c (cA : FieldType → ClassId) (ad : Nat → Nat) : ab_E → va_E
  | .inl a => .inl (cA a.1, ab_a ad a.2)
  | .inr o => .inr (o.1, o.2.map (ab_v ad))
def ab_w (cA : FieldType → ClassId) (ad : Nat → Nat) (h : ab_H) : va_W := h.mapIdx (fun i e => (ad i, ab_c cA ad e))
theorem ab_w_get {cA : FieldType → ClassId} {ad : Nat → Nat} {h : ab_H} {a : Nat} {e : ab_E} (he : h[a]? = some e) : (ab_w cA ad h)[a]? = some (ad a, ab_c cA ad e) := by
  simp [ab_w, List.getElem?_mapIdx, he]
theorem ab_w_set {cA : FieldType → ClassId} {ad : Nat → Nat} {h : ab_H} {a : Nat} {e : ab_E} : (ab_w cA ad h).set a (ad a, ab_c cA ad e) = ab_w cA ad (h.set a e) := by
  apply List.ext_getElem?
  intro i
  by_cases hi : a = i
  · subst hi
    by_cases hl : a < h.length
    · simp [ab_w, List.getElem?_set, List.getElem?_mapIdx, hl]
    · simp [ab_w, List.getElem?_set, List.getElem?_mapIdx, hl]
  · simp [ab_w, List.getElem?_set, List.getElem?_mapIdx, hi]
/-- the number of the arrays' kind, as the tables have it -/
def ab_k (U : State) (ty : FieldType) : ClassId := (U.vm.findClass ("[" ++ ty.toString)).getD 0
theorem ab_k_moved {u U : State} (hvm : u.vm.Alike U.vm) : ab_k U = ab_k u := by
  funext ty
  unfold ab_k
  rw [hvm.findClass]
def ab_T (U : State) (ty : FieldType) : Prop := ArrOfT U (ab_k U ty) ty ∧ va_RA U (ab_k U ty) ty
theorem ab_T_moved {u U : State} (hvm : u.vm.Alike U.vm) {ty : FieldType} (h : ab_T u ty) : ab_T U ty := by
  unfold ab_T
  rw [ab_k_moved hvm]
  exact ⟨arrOfT_moved hvm h.1, h.2.moved hvm⟩
/-- the references of a cell are places below n -/
def ab_ltE (n : Nat) : ab_E → Prop
  | .inl (_, _, .inr (.inr (.inr (.inr f)))) => ∀ i p : Nat, f i = some p → p < n
  | .inl _ => True
  | .inr o => ∀ v ∈ o.2, ∀ p : Nat, v = .ref p → p < n
abbrev ab_A (B : Nat) : Nat → Prop := fun q => B ≤ q
/-- the heap H holds h at the addresses ad -/
def ab_W (D : va_G) (B : Nat) (ad : Nat → Nat) (h : ab_H) (U : State) (H : Heap) : Prop :=
  va_P D ab_cl (ab_w (ab_k U) ad h) H ∧ va_D (ab_A B) (ab_w (ab_k U) ad h) ∧ va_K D ab_cl [] U ∧ (∀ (ty : FieldType) (x : vp_A), Sum.inl (ty, x) ∈ h → ab_T U ty) ∧ ∀ e ∈ h, ab_ltE h.length e
theorem ab_W_moved {D : va_G} {B : Nat} {ad : Nat → Nat} {h : ab_H} {u U : State} {H : Heap} (hvm : u.vm.Alike U.vm) (w : ab_W D B ad h u H) : ab_W D B ad h U H := by
  unfold ab_W
  rw [ab_k_moved hvm]
  exact ⟨w.1, w.2.1, va_K.moved hvm w.2.2.1, fun ty x hx => ab_T_moved hvm (w.2.2.2.1 ty x hx), w.2.2.2.2⟩
theorem ab_W_K {D : va_G} {B : Nat} {ad : Nat → Nat} {h : ab_H} {U : State} {H : Heap} (w : ab_W D B ad h U H) {a : Nat} {ty : FieldType} {x : vp_A} (he : h[a]? = some (.inl (ty, x))) : va_K D ab_cl [(ab_k U ty, ty)] U := by
  refine ⟨w.2.2.1.1, fun k q hk => ?_⟩
  have hq : q = (ab_k U ty, ty) := by
    cases k with
    | zero => exact (Option.some.inj hk).symm
    | succ k => simp at hk
  subst hq
  exact w.2.2.2.1 ty x (List.mem_of_getElem? he)
theorem ab_W_set {D : va_G} {B : Nat} {ad : Nat → Nat} {h : ab_H} {U : State} {H1 : Heap} {H : Heap} (w : ab_W D B ad h U H) {a : Nat} {e e' : ab_E} (he : h[a]? = some e) (hk : ∀ (ty : FieldType) (x : vp_A), e' = .inl (ty, x) → ab_T U ty) (hlt : ab_ltE h.length e')
    (hP : va_P D ab_cl ((ab_w (ab_k U) ad h).set a (ad a, ab_c (ab_k U) ad e')) H1) (hD : va_D (ab_A B) ((ab_w (ab_k U) ad h).set a (ad a, ab_c (ab_k U) ad e'))) : ab_W D B ad (h.set a e') U H1 := by
  rw [ab_w_set] at hP hD
  refine ⟨hP, hD, w.2.2.1, fun ty x hx => ?_, fun e9 he9 => ?_⟩
  · rcases List.mem_or_eq_of_mem_set hx with h1 | h1
    · exact w.2.2.2.1 ty x h1
    · exact hk ty x h1.symm
  · rw [List.length_set]
    rcases List.mem_or_eq_of_mem_set he9 with h1 | h1
    · exact w.2.2.2.2 e9 h1
    · rw [h1]; exact hlt
/-- what a throw and a catch need of the start: two statics of Throwable, the texts, the words that a call doesn't carry -/
def ab_X (B : Nat) (U : State) : Prop :=
  vx_Zq Bundle.tN "UNASSIGNED_STACK" Bundle.steD (ab_A B) U U.heap ∧ vx_Zq Bundle.tN "SUPPRESSED_SENTINEL" Bundle.listD (ab_A B) U U.heap ∧ (∀ x ∈ ab_Bd, (Cond.declares x).before #[] U = true) ∧ (∀ q ∈ ab_Bc, (Cond.castable q.1 q.2).before #[] U = true) ∧ (∀ q ∈ ab_Bn, va_Nc q.1 q.2 U) ∧ (∀ q ∈ ab_txt, ∃ sa : Nat, vk_R q.1 q.2.1 q.2.2 sa U) ∧ va_AOA .long U
/-- a method: name, bytes, words of locals, answer, handlers -/
abbrev ab_Y : Type := MethodName × ByteArray × Nat × Option FieldType × Option (List (Nat × Nat × Nat × Nat))
def ab_cw (y : ab_Y) : Cond := match y.2.2.2.2 with
  | none => .code y.1 y.2.1 y.2.2.1 y.2.2.2.1
  | some hh => .codeWith y.1 y.2.1 y.2.2.1 y.2.2.2.1 hh
def ab_ws (y : ab_Y) : List Cond := ab_cw y :: ab_G
def ab_N (B : Nat) (y : ab_Y) (p : Program) (l : Launch) (s : State) (m : MethodId) (args : Array Value) (meth : Method) (c : Code) : Prop :=
  p.tables.exec = Jvm.exec ∧ c.code = y.2.1 ∧ meth.sig.returnType = y.2.2.2.1 ∧ c.maxLocals = y.2.2.1 ∧ s.vm.findClass y.1.cls = some m.cls ∧ (∀ w ∈ ab_G, w.before args s = true) ∧ meth.locks = false ∧ l.stackTraces = false ∧ (y.1.name = "<init>" → meth.name = "<init>") ∧ B ≤ s.heap.size ∧ ab_X B s
/-- launch, tables, least address; method; room; what is owed at the end; what else holds of the frame -/
abbrev ab_K : Type := (Launch × va_G × Nat) × ab_Y × Room × (List Frame → Array Value → State → State → Prop) × (State → Code → (Nat → Nat) → Prop)
def ab_lo (ad : Nat → Nat) (lo : List (Nat × Value)) : List (Nat × Value) := lo.map (fun q => (q.1, ab_v ad q.2))
def ab_V (κ : ab_K) (ad : Nat → Nat) (pc : Nat) (lo : List (Nat × Value)) (st : List Value) (h : ab_H) (k n : Nat) : Prop :=
  ∀ (p : Program) (e : Env) (s : State) (m : MethodId) (args : Array Value) (below : List Frame) (meth : Method) (c : Code) (H : Heap) (locs : List Loc) (ls : Array Slot),
    ab_N κ.1.2.2 κ.2.1 p κ.1.1 s m args meth c → κ.2.2.2.2 s c ad → ab_W κ.1.2.1 κ.1.2.2 ad h s H → va_S (ab_A κ.1.2.2) s.heap H locs → lv_has ls κ.2.1.2.2.1 (ab_lo ad lo) →
    W p κ.1.1 e κ.2.2.1 s m args below meth c H locs k n (κ.2.2.2.1 below args s) (F0 m pc ls (st.map (ab_v ad)))
/-- .. with an exception of the class named E over it -/
def ab_VX (κ : ab_K) (ad : Nat → Nat) (pc : Nat) (lo : List (Nat × Value)) (st : List Value) (E : String) (h : ab_H) (k n : Nat) : Prop :=
  ∀ (p : Program) (e : Env) (s : State) (m : MethodId) (args : Array Value) (below : List Frame) (meth : Method) (c : Code) (H : Heap) (locs : List Loc) (ls : Array Slot) (q : Addr) (ce : Cell),
    ab_N κ.1.2.2 κ.2.1 p κ.1.1 s m args meth c → κ.2.2.2.2 s c ad → ab_W κ.1.2.1 κ.1.2.2 ad h s H → va_S (ab_A κ.1.2.2) s.heap H locs → lv_has ls κ.2.1.2.2.1 (ab_lo ad lo) →
    H[q]? = some ce → ce.vm = .none → s.vm.findClass E = some ce.cls →
    vx_W p κ.1.1 e κ.2.2.1 s m args below meth c H locs k n (κ.2.2.2.1 below args s) (F0 m pc ls (st.map (ab_v ad))) q
theorem ab_cat {ad : Nat → Nat} (v : Value) : (ab_v ad v).category = v.category := by cases v <;> rfl
theorem ab_W_kept {D : va_G} {B : Nat} {ad : Nat → Nat} {h : ab_H} {U : State} {H H1 : Heap} (w : ab_W D B ad h U H) (hq : ∀ q : Nat, q < H.size → H1[q]? = H[q]?) : ab_W D B ad h U H1 := by
  refine ⟨fun k q hk => ?_, w.2⟩
  have h1 := w.1 k q hk
  obtain ⟨qa, x | x⟩ := q
  · have h2 : H[qa]? = some (vp_cell x.1 x.2) := h1
    show H1[qa]? = some (vp_cell x.1 x.2)
    rw [hq qa (Array.getElem?_eq_some_iff.mp h2).1]; exact h2
  · obtain ⟨r, h2, cell, h3, h4⟩ := h1
    exact ⟨r, h2, cell, by rw [hq qa (Array.getElem?_eq_some_iff.mp h3).1]; exact h3, h4⟩
theorem ab_mem_look {lo : List (Nat × Value)} {j : Nat} {v : Value} (hx : lo.lookup j = some v) : (j, v) ∈ lo := by
  induction lo with
  | nil => cases hx
  | cons q lo ih =>
    obtain ⟨a, b⟩ := q
    rw [List.lookup_cons] at hx
    by_cases hj : (j == a) = true
    · rw [hj] at hx
      have h1 : b = v := Option.some.inj hx
      have h2 : j = a := by simpa using hj
      rw [h1, h2]; exact List.mem_cons_self
    · have h3 : (j == a) = false := by simpa using hj
      rw [h3] at hx
      exact List.mem_cons_of_mem _ (ih hx)
theorem ab_mem_lo {ad : Nat → Nat} {lo : List (Nat × Value)} {j : Nat} {v : Value} (hx : lo.lookup j = some v) : (j, ab_v ad v) ∈ ab_lo ad lo := List.mem_map.mpr ⟨(j, v), ab_mem_look hx, rfl⟩
theorem ab_look {ad : Nat → Nat} {ls : Array Slot} {nL : Nat} {lo : List (Nat × Value)} {j : Nat} {v : Value} (hl : lv_has ls nL (ab_lo ad lo)) (hx : lo.lookup j = some v) : ls[j]? = some (.val (ab_v ad v)) := hl.2.2 _ (ab_mem_lo hx)
theorem ab_look_place {ad : Nat → Nat} {ls : Array Slot} {nL : Nat} {lo : List (Nat × Value)} {j : Nat} {x : Int32} (hl : lv_has ls nL (ab_lo ad lo)) (hx : lo.lookup j = some (.int x)) : ∃ q : Nat, (ab_lo ad lo)[q]? = some (j, .int x) := by
  obtain ⟨q, hq⟩ := List.getElem?_of_mem (ab_mem_lo (ad := ad) hx)
  exact ⟨q, hq⟩
theorem ab_lo_filter {ad : Nat → Nat} {lo : List (Nat × Value)} (f : Nat → Nat → Bool) : (ab_lo ad lo).filter (fun q => f q.1 q.2.category) = ab_lo ad (lo.filter (fun q => f q.1 q.2.category)) := by
  induction lo with
  | nil => rfl
  | cons q lo ih =>
    have h1 : ab_lo ad (q :: lo) = (q.1, ab_v ad q.2) :: ab_lo ad lo := rfl
    rw [h1, List.filter_cons, List.filter_cons, ab_cat, ih]
    split <;> rfl
theorem ab_lo_f1 {ad : Nat → Nat} {ls : Array Slot} {nL : Nat} {lo : List (Nat × Value)} {j : Nat} (v : Value) (hl : lv_has ls nL ((j, ab_v ad v) :: (ab_lo ad lo).filter (fun q => !(q.1 == j) && !(q.1 + 1 == j && q.2.category == 2)))) : lv_has ls nL (ab_lo ad ((j, v) :: lo.filter (fun q => !(q.1 == j) && !(q.1 + 1 == j && q.2.category == 2)))) := by
  rw [ab_lo_filter (fun a b => !(a == j) && !(a + 1 == j && b == 2))] at hl
  exact hl
theorem ab_lo_f2 {ad : Nat → Nat} {ls : Array Slot} {nL : Nat} {lo : List (Nat × Value)} {j : Nat} (v : Value) (hl : lv_has ls nL ((j, ab_v ad v) :: (ab_lo ad lo).filter (fun q => !(q.1 == j) && (!(q.1 == j + 1) && !(q.1 + 1 == j && q.2.category == 2))))) : lv_has ls nL (ab_lo ad ((j, v) :: lo.filter (fun q => !(q.1 == j) && (!(q.1 == j + 1) && !(q.1 + 1 == j && q.2.category == 2))))) := by
  rw [ab_lo_filter (fun a b => !(a == j) && (!(a == j + 1) && !(a + 1 == j && b == 2)))] at hl
  exact hl
section ABR
variable {κ : ab_K} {ad : Nat → Nat} {pc : Nat} {lo : List (Nat × Value)} {st : List Value} {h : ab_H} {k n : Nat}
theorem ab_iconst {i : Int} (pc' : Nat) (hd : decode κ.2.1.2.1 pc = .ok (.iconst i, 1)) (v : Int32) (hv : Int32.ofInt i = v) (kk : ab_V κ ad pc' lo (.int v :: st) h k n) (hp : pc + 1 = pc' := by rfl) : ab_V κ ad pc lo (st) h k n := by
  subst hp
  intro p e s m args below meth c H locs ls N tb w hS hl
  exact lv_iconst N.1 N.2.1 hd hv (kk p e s m args below meth c H locs ls N tb w hS hl)
theorem ab_bipush {i : Int} (pc' : Nat) (hd : decode κ.2.1.2.1 pc = .ok (.bipush i, 2)) (v : Int32) (hv : (Int8.ofInt i).toInt32 = v) (kk : ab_V κ ad pc' lo (.int v :: st) h k n) (hp : pc + 2 = pc' := by rfl) : ab_V κ ad pc lo (st) h k n := by
  subst hp
  intro p e s m args below meth c H locs ls N tb w hS hl
  exact lv_bipush N.1 N.2.1 hd hv (kk p e s m args below meth c H locs ls N tb w hS hl)
theorem ab_sipush {i : Int} (pc' : Nat) (hd : decode κ.2.1.2.1 pc = .ok (.sipush i, 3)) (v : Int32) (hv : (Int16.ofInt i).toInt32 = v) (kk : ab_V κ ad pc' lo (.int v :: st) h k n) (hp : pc + 3 = pc' := by rfl) : ab_V κ ad pc lo (st) h k n := by
  subst hp
  intro p e s m args below meth c H locs ls N tb w hS hl
  exact lv_sipush N.1 N.2.1 hd hv (kk p e s m args below meth c H locs ls N tb w hS hl)
theorem ab_lconst {i : Fin 2} (pc' : Nat) (hd : decode κ.2.1.2.1 pc = .ok (.lconst i, 1)) (v : Int64) (hv : Int64.ofNat (i : Nat) = v) (kk : ab_V κ ad pc' lo (.long v :: st) h k n) (hp : pc + 1 = pc' := by rfl) : ab_V κ ad pc lo (st) h k n := by
  subst hp
  intro p e s m args below meth c H locs ls N tb w hS hl
  exact lv_lconst N.1 N.2.1 hd hv (kk p e s m args below meth c H locs ls N tb w hS hl)
theorem ab_iadd {x y : Int32} (pc' : Nat) (hd : decode κ.2.1.2.1 pc = .ok (.iadd, 1)) (kk : ab_V κ ad pc' lo (.int (x + y) :: st) h k n) (hp : pc + 1 = pc' := by rfl) : ab_V κ ad pc lo (.int y :: .int x :: st) h k n := by
  subst hp
  intro p e s m args below meth c H locs ls N tb w hS hl
  exact lv_iadd N.1 N.2.1 hd (kk p e s m args below meth c H locs ls N tb w hS hl)
theorem ab_isub {x y : Int32} (pc' : Nat) (hd : decode κ.2.1.2.1 pc = .ok (.isub, 1)) (kk : ab_V κ ad pc' lo (.int (x - y) :: st) h k n) (hp : pc + 1 = pc' := by rfl) : ab_V κ ad pc lo (.int y :: .int x :: st) h k n := by
  subst hp
  intro p e s m args below meth c H locs ls N tb w hS hl
  exact lv_isub N.1 N.2.1 hd (kk p e s m args below meth c H locs ls N tb w hS hl)
theorem ab_imul {x y : Int32} (pc' : Nat) (hd : decode κ.2.1.2.1 pc = .ok (.imul, 1)) (kk : ab_V κ ad pc' lo (.int (x * y) :: st) h k n) (hp : pc + 1 = pc' := by rfl) : ab_V κ ad pc lo (.int y :: .int x :: st) h k n := by
  subst hp
  intro p e s m args below meth c H locs ls N tb w hS hl
  exact lv_imul N.1 N.2.1 hd (kk p e s m args below meth c H locs ls N tb w hS hl)
theorem ab_iand {x y : Int32} (pc' : Nat) (hd : decode κ.2.1.2.1 pc = .ok (.iand, 1)) (kk : ab_V κ ad pc' lo (.int (x &&& y) :: st) h k n) (hp : pc + 1 = pc' := by rfl) : ab_V κ ad pc lo (.int y :: .int x :: st) h k n := by
  subst hp
  intro p e s m args below meth c H locs ls N tb w hS hl
  exact lv_iand N.1 N.2.1 hd (kk p e s m args below meth c H locs ls N tb w hS hl)
theorem ab_ior {x y : Int32} (pc' : Nat) (hd : decode κ.2.1.2.1 pc = .ok (.ior, 1)) (kk : ab_V κ ad pc' lo (.int (x ||| y) :: st) h k n) (hp : pc + 1 = pc' := by rfl) : ab_V κ ad pc lo (.int y :: .int x :: st) h k n := by
  subst hp
  intro p e s m args below meth c H locs ls N tb w hS hl
  exact lv_ior N.1 N.2.1 hd (kk p e s m args below meth c H locs ls N tb w hS hl)
theorem ab_ixor {x y : Int32} (pc' : Nat) (hd : decode κ.2.1.2.1 pc = .ok (.ixor, 1)) (kk : ab_V κ ad pc' lo (.int (x ^^^ y) :: st) h k n) (hp : pc + 1 = pc' := by rfl) : ab_V κ ad pc lo (.int y :: .int x :: st) h k n := by
  subst hp
  intro p e s m args below meth c H locs ls N tb w hS hl
  exact lv_ixor N.1 N.2.1 hd (kk p e s m args below meth c H locs ls N tb w hS hl)
theorem ab_ishl {x y : Int32} (pc' : Nat) (hd : decode κ.2.1.2.1 pc = .ok (.ishl, 1)) (kk : ab_V κ ad pc' lo (.int (x <<< (y &&& 31)) :: st) h k n) (hp : pc + 1 = pc' := by rfl) : ab_V κ ad pc lo (.int y :: .int x :: st) h k n := by
  subst hp
  intro p e s m args below meth c H locs ls N tb w hS hl
  exact lv_ishl N.1 N.2.1 hd (kk p e s m args below meth c H locs ls N tb w hS hl)
theorem ab_ishr {x y : Int32} (pc' : Nat) (hd : decode κ.2.1.2.1 pc = .ok (.ishr, 1)) (kk : ab_V κ ad pc' lo (.int (x >>> (y &&& 31)) :: st) h k n) (hp : pc + 1 = pc' := by rfl) : ab_V κ ad pc lo (.int y :: .int x :: st) h k n := by
  subst hp
  intro p e s m args below meth c H locs ls N tb w hS hl
  exact lv_ishr N.1 N.2.1 hd (kk p e s m args below meth c H locs ls N tb w hS hl)
theorem ab_ladd {x y : Int64} (pc' : Nat) (hd : decode κ.2.1.2.1 pc = .ok (.ladd, 1)) (kk : ab_V κ ad pc' lo (.long (x + y) :: st) h k n) (hp : pc + 1 = pc' := by rfl) : ab_V κ ad pc lo (.long y :: .long x :: st) h k n := by
  subst hp
  intro p e s m args below meth c H locs ls N tb w hS hl
  exact lv_ladd N.1 N.2.1 hd (kk p e s m args below meth c H locs ls N tb w hS hl)
theorem ab_lsub {x y : Int64} (pc' : Nat) (hd : decode κ.2.1.2.1 pc = .ok (.lsub, 1)) (kk : ab_V κ ad pc' lo (.long (x - y) :: st) h k n) (hp : pc + 1 = pc' := by rfl) : ab_V κ ad pc lo (.long y :: .long x :: st) h k n := by
  subst hp
  intro p e s m args below meth c H locs ls N tb w hS hl
  exact lv_lsub N.1 N.2.1 hd (kk p e s m args below meth c H locs ls N tb w hS hl)
theorem ab_land {x y : Int64} (pc' : Nat) (hd : decode κ.2.1.2.1 pc = .ok (.land, 1)) (kk : ab_V κ ad pc' lo (.long (x &&& y) :: st) h k n) (hp : pc + 1 = pc' := by rfl) : ab_V κ ad pc lo (.long y :: .long x :: st) h k n := by
  subst hp
  intro p e s m args below meth c H locs ls N tb w hS hl
  exact lv_land N.1 N.2.1 hd (kk p e s m args below meth c H locs ls N tb w hS hl)
theorem ab_lor {x y : Int64} (pc' : Nat) (hd : decode κ.2.1.2.1 pc = .ok (.lor, 1)) (kk : ab_V κ ad pc' lo (.long (x ||| y) :: st) h k n) (hp : pc + 1 = pc' := by rfl) : ab_V κ ad pc lo (.long y :: .long x :: st) h k n := by
  subst hp
  intro p e s m args below meth c H locs ls N tb w hS hl
  exact lv_lor N.1 N.2.1 hd (kk p e s m args below meth c H locs ls N tb w hS hl)
theorem ab_ldiv {x y : Int64} (pc' : Nat) (hd : decode κ.2.1.2.1 pc = .ok (.ldiv, 1)) (hne : ¬ y = 0) (kk : ab_V κ ad pc' lo (.long (x / y) :: st) h k n) (hp : pc + 1 = pc' := by rfl) : ab_V κ ad pc lo (.long y :: .long x :: st) h k n := by
  subst hp
  intro p e s m args below meth c H locs ls N tb w hS hl
  exact lv_ldiv N.1 N.2.1 hd hne (kk p e s m args below meth c H locs ls N tb w hS hl)
theorem ab_iushr {x y : Int32} (pc' : Nat) (hd : decode κ.2.1.2.1 pc = .ok (.iushr, 1)) (kk : ab_V κ ad pc' lo (.int ((x.toUInt32 >>> (y.toUInt32 &&& Int32.toUInt32 31)).toInt32) :: st) h k n) (hp : pc + 1 = pc' := by rfl) : ab_V κ ad pc lo (.int y :: .int x :: st) h k n := by
  subst hp
  intro p e s m args below meth c H locs ls N tb w hS hl
  exact lv_iushr N.1 N.2.1 hd rfl (kk p e s m args below meth c H locs ls N tb w hS hl)
theorem ab_lshl {x : Int64} {y : Int32} (pc' : Nat) (hd : decode κ.2.1.2.1 pc = .ok (.lshl, 1)) (kk : ab_V κ ad pc' lo (.long (x <<< (y.toInt64 &&& 63)) :: st) h k n) (hp : pc + 1 = pc' := by rfl) : ab_V κ ad pc lo (.int y :: .long x :: st) h k n := by
  subst hp
  intro p e s m args below meth c H locs ls N tb w hS hl
  exact lv_lshl N.1 N.2.1 hd rfl (kk p e s m args below meth c H locs ls N tb w hS hl)
theorem ab_i2l {x : Int32} (pc' : Nat) (hd : decode κ.2.1.2.1 pc = .ok (.i2l, 1)) (kk : ab_V κ ad pc' lo (.long x.toInt64 :: st) h k n) (hp : pc + 1 = pc' := by rfl) : ab_V κ ad pc lo (.int x :: st) h k n := by
  subst hp
  intro p e s m args below meth c H locs ls N tb w hS hl
  exact lv_i2l N.1 N.2.1 hd rfl (kk p e s m args below meth c H locs ls N tb w hS hl)
theorem ab_dupi {x : Int32} (pc' : Nat) (hd : decode κ.2.1.2.1 pc = .ok (.dup, 1)) (kk : ab_V κ ad pc' lo (.int x :: .int x :: st) h k n) (hp : pc + 1 = pc' := by rfl) : ab_V κ ad pc lo (.int x :: st) h k n := by
  subst hp
  intro p e s m args below meth c H locs ls N tb w hS hl
  exact lv_dup N.1 N.2.1 hd rfl (kk p e s m args below meth c H locs ls N tb w hS hl)
theorem ab_dupr {x : Nat} (pc' : Nat) (hd : decode κ.2.1.2.1 pc = .ok (.dup, 1)) (kk : ab_V κ ad pc' lo (.ref x :: .ref x :: st) h k n) (hp : pc + 1 = pc' := by rfl) : ab_V κ ad pc lo (.ref x :: st) h k n := by
  subst hp
  intro p e s m args below meth c H locs ls N tb w hS hl
  exact lv_dup N.1 N.2.1 hd rfl (kk p e s m args below meth c H locs ls N tb w hS hl)
theorem ab_dup2ir {x : Int32} {y : Nat} (pc' : Nat) (hd : decode κ.2.1.2.1 pc = .ok (.dup2, 1)) (kk : ab_V κ ad pc' lo (.int x :: .ref y :: .int x :: .ref y :: st) h k n) (hp : pc + 1 = pc' := by rfl) : ab_V κ ad pc lo (.int x :: .ref y :: st) h k n := by
  subst hp
  intro p e s m args below meth c H locs ls N tb w hS hl
  exact lv_dup2_11 N.1 N.2.1 hd rfl rfl (kk p e s m args below meth c H locs ls N tb w hS hl)
theorem ab_iload_n {j : Fin 4} {x : Int32} (pc' : Nat) (hd : decode κ.2.1.2.1 pc = .ok (.iload_n j, 1)) (hx : lo.lookup (j : Nat) = some (.int x)) (kk : ab_V κ ad pc' lo (.int x :: st) h k n) (hp : pc + 1 = pc' := by rfl) : ab_V κ ad pc lo (st) h k n := by
  subst hp
  intro p e s m args below meth c H locs ls N tb w hS hl
  exact lv_iload_n N.1 N.2.1 hd rfl (ab_look hl hx) (kk p e s m args below meth c H locs ls N tb w hS hl)
theorem ab_iload {j : Nat} {x : Int32} (pc' : Nat) (hd : decode κ.2.1.2.1 pc = .ok (.iload j, 2)) (hx : lo.lookup j = some (.int x)) (kk : ab_V κ ad pc' lo (.int x :: st) h k n) (hp : pc + 2 = pc' := by rfl) : ab_V κ ad pc lo (st) h k n := by
  subst hp
  intro p e s m args below meth c H locs ls N tb w hS hl
  exact lv_iload N.1 N.2.1 hd (ab_look hl hx) (kk p e s m args below meth c H locs ls N tb w hS hl)
theorem ab_lload_n {j : Fin 4} {x : Int64} (pc' : Nat) (hd : decode κ.2.1.2.1 pc = .ok (.lload_n j, 1)) (hx : lo.lookup (j : Nat) = some (.long x)) (kk : ab_V κ ad pc' lo (.long x :: st) h k n) (hp : pc + 1 = pc' := by rfl) : ab_V κ ad pc lo (st) h k n := by
  subst hp
  intro p e s m args below meth c H locs ls N tb w hS hl
  exact lv_lload_n N.1 N.2.1 hd rfl (ab_look hl hx) (kk p e s m args below meth c H locs ls N tb w hS hl)
theorem ab_lload {j : Nat} {x : Int64} (pc' : Nat) (hd : decode κ.2.1.2.1 pc = .ok (.lload j, 2)) (hx : lo.lookup j = some (.long x)) (kk : ab_V κ ad pc' lo (.long x :: st) h k n) (hp : pc + 2 = pc' := by rfl) : ab_V κ ad pc lo (st) h k n := by
  subst hp
  intro p e s m args below meth c H locs ls N tb w hS hl
  exact lv_lload N.1 N.2.1 hd (ab_look hl hx) (kk p e s m args below meth c H locs ls N tb w hS hl)
theorem ab_aload_n {j : Fin 4} {x : Nat} (pc' : Nat) (hd : decode κ.2.1.2.1 pc = .ok (.aload_n j, 1)) (hx : lo.lookup (j : Nat) = some (.ref x)) (kk : ab_V κ ad pc' lo (.ref x :: st) h k n) (hp : pc + 1 = pc' := by rfl) : ab_V κ ad pc lo (st) h k n := by
  subst hp
  intro p e s m args below meth c H locs ls N tb w hS hl
  exact lv_aload_n N.1 N.2.1 hd rfl (ab_look hl hx) (kk p e s m args below meth c H locs ls N tb w hS hl)
theorem ab_aload {j : Nat} {x : Nat} (pc' : Nat) (hd : decode κ.2.1.2.1 pc = .ok (.aload j, 2)) (hx : lo.lookup j = some (.ref x)) (kk : ab_V κ ad pc' lo (.ref x :: st) h k n) (hp : pc + 2 = pc' := by rfl) : ab_V κ ad pc lo (st) h k n := by
  subst hp
  intro p e s m args below meth c H locs ls N tb w hS hl
  exact lv_aload N.1 N.2.1 hd (ab_look hl hx) (kk p e s m args below meth c H locs ls N tb w hS hl)
theorem ab_istore_n {j : Fin 4} {x : Int32} (pc' : Nat) (lo' : List (Nat × Value)) (hd : decode κ.2.1.2.1 pc = .ok (.istore_n j, 1)) (hlo : ((j : Nat), Value.int x) :: lo.filter (fun q => !(q.1 == (j : Nat)) && !(q.1 + 1 == (j : Nat) && q.2.category == 2)) = lo') (kk : ab_V κ ad pc' lo' st h k n) (hn : (j : Nat) < κ.2.1.2.2.1 := by exact Nat.le_of_ble_eq_true rfl) (hp : pc + 1 = pc' := by rfl) : ab_V κ ad pc lo (Value.int x :: st) h k n := by
  subst hp
  subst hlo
  intro p e s m args below meth c H locs ls N tb w hS hl
  exact lv_istore_n N.1 N.2.1 hd rfl hl hn rfl (fun ls' hl' => kk p e s m args below meth c H locs ls' N tb w hS (ab_lo_f1 (Value.int x) hl'))
theorem ab_istore {j : Nat} {x : Int32} (pc' : Nat) (lo' : List (Nat × Value)) (hd : decode κ.2.1.2.1 pc = .ok (.istore j, 2)) (hlo : (j, Value.int x) :: lo.filter (fun q => !(q.1 == j) && !(q.1 + 1 == j && q.2.category == 2)) = lo') (kk : ab_V κ ad pc' lo' st h k n) (hn : j < κ.2.1.2.2.1 := by exact Nat.le_of_ble_eq_true rfl) (hp : pc + 2 = pc' := by rfl) : ab_V κ ad pc lo (Value.int x :: st) h k n := by
  subst hp
  subst hlo
  intro p e s m args below meth c H locs ls N tb w hS hl
  exact lv_istore N.1 N.2.1 hd hl hn rfl (fun ls' hl' => kk p e s m args below meth c H locs ls' N tb w hS (ab_lo_f1 (Value.int x) hl'))
theorem ab_lstore_n {j : Fin 4} {x : Int64} (pc' : Nat) (lo' : List (Nat × Value)) (hd : decode κ.2.1.2.1 pc = .ok (.lstore_n j, 1)) (hlo : ((j : Nat), Value.long x) :: lo.filter (fun q => !(q.1 == (j : Nat)) && (!(q.1 == (j : Nat) + 1) && !(q.1 + 1 == (j : Nat) && q.2.category == 2))) = lo') (kk : ab_V κ ad pc' lo' st h k n) (hn : (j : Nat) + 1 < κ.2.1.2.2.1 := by exact Nat.le_of_ble_eq_true rfl) (hp : pc + 1 = pc' := by rfl) : ab_V κ ad pc lo (Value.long x :: st) h k n := by
  subst hp
  subst hlo
  intro p e s m args below meth c H locs ls N tb w hS hl
  exact lv_lstore_n N.1 N.2.1 hd rfl hl hn rfl (fun ls' hl' => kk p e s m args below meth c H locs ls' N tb w hS (ab_lo_f2 (Value.long x) hl'))
theorem ab_lstore {j : Nat} {x : Int64} (pc' : Nat) (lo' : List (Nat × Value)) (hd : decode κ.2.1.2.1 pc = .ok (.lstore j, 2)) (hlo : (j, Value.long x) :: lo.filter (fun q => !(q.1 == j) && (!(q.1 == j + 1) && !(q.1 + 1 == j && q.2.category == 2))) = lo') (kk : ab_V κ ad pc' lo' st h k n) (hn : j + 1 < κ.2.1.2.2.1 := by exact Nat.le_of_ble_eq_true rfl) (hp : pc + 2 = pc' := by rfl) : ab_V κ ad pc lo (Value.long x :: st) h k n := by
  subst hp
  subst hlo
  intro p e s m args below meth c H locs ls N tb w hS hl
  exact lv_lstore N.1 N.2.1 hd hl hn rfl (fun ls' hl' => kk p e s m args below meth c H locs ls' N tb w hS (ab_lo_f2 (Value.long x) hl'))
theorem ab_astore_n {j : Fin 4} {x : Nat} (pc' : Nat) (lo' : List (Nat × Value)) (hd : decode κ.2.1.2.1 pc = .ok (.astore_n j, 1)) (hlo : ((j : Nat), Value.ref x) :: lo.filter (fun q => !(q.1 == (j : Nat)) && !(q.1 + 1 == (j : Nat) && q.2.category == 2)) = lo') (kk : ab_V κ ad pc' lo' st h k n) (hn : (j : Nat) < κ.2.1.2.2.1 := by exact Nat.le_of_ble_eq_true rfl) (hp : pc + 1 = pc' := by rfl) : ab_V κ ad pc lo (Value.ref x :: st) h k n := by
  subst hp
  subst hlo
  intro p e s m args below meth c H locs ls N tb w hS hl
  exact lv_astore_n N.1 N.2.1 hd rfl hl hn rfl (fun ls' hl' => kk p e s m args below meth c H locs ls' N tb w hS (ab_lo_f1 (Value.ref x) hl'))
theorem ab_astore {j : Nat} {x : Nat} (pc' : Nat) (lo' : List (Nat × Value)) (hd : decode κ.2.1.2.1 pc = .ok (.astore j, 2)) (hlo : (j, Value.ref x) :: lo.filter (fun q => !(q.1 == j) && !(q.1 + 1 == j && q.2.category == 2)) = lo') (kk : ab_V κ ad pc' lo' st h k n) (hn : j < κ.2.1.2.2.1 := by exact Nat.le_of_ble_eq_true rfl) (hp : pc + 2 = pc' := by rfl) : ab_V κ ad pc lo (Value.ref x :: st) h k n := by
  subst hp
  subst hlo
  intro p e s m args below meth c H locs ls N tb w hS hl
  exact lv_astore N.1 N.2.1 hd hl hn rfl (fun ls' hl' => kk p e s m args below meth c H locs ls' N tb w hS (ab_lo_f1 (Value.ref x) hl'))
theorem ab_if_eq {x : Int32} {off : Int} (t pc' : Nat) (hd : decode κ.2.1.2.1 pc = .ok (.ifCond .eq off, 3)) (kt : x = 0 → ab_V κ ad t lo st h k n) (kf : ¬ x = 0 → ab_V κ ad pc' lo st h k n) (ht : (pc : Int) + off = (t : Int) := by rfl) (hp : pc + 3 = pc' := by rfl) : ab_V κ ad pc lo (.int x :: st) h k n := by
  subst hp
  intro p e s m args below meth c H locs ls N tb w hS hl
  exact lv_if_eq N.1 N.2.1 hd ht (fun z => kt z p e s m args below meth c H locs ls N tb w hS hl) (fun z => kf z p e s m args below meth c H locs ls N tb w hS hl)
theorem ab_if_ne {x : Int32} {off : Int} (t pc' : Nat) (hd : decode κ.2.1.2.1 pc = .ok (.ifCond .ne off, 3)) (kt : ¬ x = 0 → ab_V κ ad t lo st h k n) (kf : x = 0 → ab_V κ ad pc' lo st h k n) (ht : (pc : Int) + off = (t : Int) := by rfl) (hp : pc + 3 = pc' := by rfl) : ab_V κ ad pc lo (.int x :: st) h k n := by
  subst hp
  intro p e s m args below meth c H locs ls N tb w hS hl
  exact lv_if_ne N.1 N.2.1 hd ht (fun z => kt z p e s m args below meth c H locs ls N tb w hS hl) (fun z => kf z p e s m args below meth c H locs ls N tb w hS hl)
theorem ab_if_lt {x : Int32} {off : Int} (t pc' : Nat) (hd : decode κ.2.1.2.1 pc = .ok (.ifCond .lt off, 3)) (kt : x < 0 → ab_V κ ad t lo st h k n) (kf : ¬ x < 0 → ab_V κ ad pc' lo st h k n) (ht : (pc : Int) + off = (t : Int) := by rfl) (hp : pc + 3 = pc' := by rfl) : ab_V κ ad pc lo (.int x :: st) h k n := by
  subst hp
  intro p e s m args below meth c H locs ls N tb w hS hl
  exact lv_if_lt N.1 N.2.1 hd ht (fun z => kt z p e s m args below meth c H locs ls N tb w hS hl) (fun z => kf z p e s m args below meth c H locs ls N tb w hS hl)
theorem ab_if_ge {x : Int32} {off : Int} (t pc' : Nat) (hd : decode κ.2.1.2.1 pc = .ok (.ifCond .ge off, 3)) (kt : 0 ≤ x → ab_V κ ad t lo st h k n) (kf : ¬ 0 ≤ x → ab_V κ ad pc' lo st h k n) (ht : (pc : Int) + off = (t : Int) := by rfl) (hp : pc + 3 = pc' := by rfl) : ab_V κ ad pc lo (.int x :: st) h k n := by
  subst hp
  intro p e s m args below meth c H locs ls N tb w hS hl
  exact lv_if_ge N.1 N.2.1 hd ht (fun z => kt z p e s m args below meth c H locs ls N tb w hS hl) (fun z => kf z p e s m args below meth c H locs ls N tb w hS hl)
theorem ab_if_gt {x : Int32} {off : Int} (t pc' : Nat) (hd : decode κ.2.1.2.1 pc = .ok (.ifCond .gt off, 3)) (kt : 0 < x → ab_V κ ad t lo st h k n) (kf : ¬ 0 < x → ab_V κ ad pc' lo st h k n) (ht : (pc : Int) + off = (t : Int) := by rfl) (hp : pc + 3 = pc' := by rfl) : ab_V κ ad pc lo (.int x :: st) h k n := by
  subst hp
  intro p e s m args below meth c H locs ls N tb w hS hl
  exact lv_if_gt N.1 N.2.1 hd ht (fun z => kt z p e s m args below meth c H locs ls N tb w hS hl) (fun z => kf z p e s m args below meth c H locs ls N tb w hS hl)
theorem ab_if_le {x : Int32} {off : Int} (t pc' : Nat) (hd : decode κ.2.1.2.1 pc = .ok (.ifCond .le off, 3)) (kt : x ≤ 0 → ab_V κ ad t lo st h k n) (kf : ¬ x ≤ 0 → ab_V κ ad pc' lo st h k n) (ht : (pc : Int) + off = (t : Int) := by rfl) (hp : pc + 3 = pc' := by rfl) : ab_V κ ad pc lo (.int x :: st) h k n := by
  subst hp
  intro p e s m args below meth c H locs ls N tb w hS hl
  exact lv_if_le N.1 N.2.1 hd ht (fun z => kt z p e s m args below meth c H locs ls N tb w hS hl) (fun z => kf z p e s m args below meth c H locs ls N tb w hS hl)
theorem ab_ic_eq {x y : Int32} {off : Int} (t pc' : Nat) (hd : decode κ.2.1.2.1 pc = .ok (.if_icmp .eq off, 3)) (kt : x = y → ab_V κ ad t lo st h k n) (kf : ¬ x = y → ab_V κ ad pc' lo st h k n) (ht : (pc : Int) + off = (t : Int) := by rfl) (hp : pc + 3 = pc' := by rfl) : ab_V κ ad pc lo (.int y :: .int x :: st) h k n := by
  subst hp
  intro p e s m args below meth c H locs ls N tb w hS hl
  exact lv_icmp_eq N.1 N.2.1 hd ht (fun z => kt z p e s m args below meth c H locs ls N tb w hS hl) (fun z => kf z p e s m args below meth c H locs ls N tb w hS hl)
theorem ab_ic_ne {x y : Int32} {off : Int} (t pc' : Nat) (hd : decode κ.2.1.2.1 pc = .ok (.if_icmp .ne off, 3)) (kt : ¬ x = y → ab_V κ ad t lo st h k n) (kf : x = y → ab_V κ ad pc' lo st h k n) (ht : (pc : Int) + off = (t : Int) := by rfl) (hp : pc + 3 = pc' := by rfl) : ab_V κ ad pc lo (.int y :: .int x :: st) h k n := by
  subst hp
  intro p e s m args below meth c H locs ls N tb w hS hl
  exact lv_icmp_ne N.1 N.2.1 hd ht (fun z => kt z p e s m args below meth c H locs ls N tb w hS hl) (fun z => kf z p e s m args below meth c H locs ls N tb w hS hl)
theorem ab_ic_lt {x y : Int32} {off : Int} (t pc' : Nat) (hd : decode κ.2.1.2.1 pc = .ok (.if_icmp .lt off, 3)) (kt : x < y → ab_V κ ad t lo st h k n) (kf : ¬ x < y → ab_V κ ad pc' lo st h k n) (ht : (pc : Int) + off = (t : Int) := by rfl) (hp : pc + 3 = pc' := by rfl) : ab_V κ ad pc lo (.int y :: .int x :: st) h k n := by
  subst hp
  intro p e s m args below meth c H locs ls N tb w hS hl
  exact lv_icmp_lt N.1 N.2.1 hd ht (fun z => kt z p e s m args below meth c H locs ls N tb w hS hl) (fun z => kf z p e s m args below meth c H locs ls N tb w hS hl)
theorem ab_ic_ge {x y : Int32} {off : Int} (t pc' : Nat) (hd : decode κ.2.1.2.1 pc = .ok (.if_icmp .ge off, 3)) (kt : y ≤ x → ab_V κ ad t lo st h k n) (kf : ¬ y ≤ x → ab_V κ ad pc' lo st h k n) (ht : (pc : Int) + off = (t : Int) := by rfl) (hp : pc + 3 = pc' := by rfl) : ab_V κ ad pc lo (.int y :: .int x :: st) h k n := by
  subst hp
  intro p e s m args below meth c H locs ls N tb w hS hl
  exact lv_icmp_ge N.1 N.2.1 hd ht (fun z => kt z p e s m args below meth c H locs ls N tb w hS hl) (fun z => kf z p e s m args below meth c H locs ls N tb w hS hl)
theorem ab_ic_gt {x y : Int32} {off : Int} (t pc' : Nat) (hd : decode κ.2.1.2.1 pc = .ok (.if_icmp .gt off, 3)) (kt : y < x → ab_V κ ad t lo st h k n) (kf : ¬ y < x → ab_V κ ad pc' lo st h k n) (ht : (pc : Int) + off = (t : Int) := by rfl) (hp : pc + 3 = pc' := by rfl) : ab_V κ ad pc lo (.int y :: .int x :: st) h k n := by
  subst hp
  intro p e s m args below meth c H locs ls N tb w hS hl
  exact lv_icmp_gt N.1 N.2.1 hd ht (fun z => kt z p e s m args below meth c H locs ls N tb w hS hl) (fun z => kf z p e s m args below meth c H locs ls N tb w hS hl)
theorem ab_ic_le {x y : Int32} {off : Int} (t pc' : Nat) (hd : decode κ.2.1.2.1 pc = .ok (.if_icmp .le off, 3)) (kt : x ≤ y → ab_V κ ad t lo st h k n) (kf : ¬ x ≤ y → ab_V κ ad pc' lo st h k n) (ht : (pc : Int) + off = (t : Int) := by rfl) (hp : pc + 3 = pc' := by rfl) : ab_V κ ad pc lo (.int y :: .int x :: st) h k n := by
  subst hp
  intro p e s m args below meth c H locs ls N tb w hS hl
  exact lv_icmp_le N.1 N.2.1 hd ht (fun z => kt z p e s m args below meth c H locs ls N tb w hS hl) (fun z => kf z p e s m args below meth c H locs ls N tb w hS hl)
theorem ab_goto {off : Int} (t : Nat) (hd : decode κ.2.1.2.1 pc = .ok (.goto off, 3)) (kk : ab_V κ ad t lo st h k n) (ht : (pc : Int) + off = (t : Int) := by rfl) : ab_V κ ad pc lo st h k n := by
  intro p e s m args below meth c H locs ls N tb w hS hl
  exact lv_goto N.1 N.2.1 hd ht (kk p e s m args below meth c H locs ls N tb w hS hl)
theorem ab_iald {a N9 : Nat} {f : Nat → Int32} {i : Int32} (pc' : Nat) (hd : decode κ.2.1.2.1 pc = .ok (.iaload, 1)) (he : h[a]? = some (.inl (.int, N9, .inl f))) (hi : vp_in i N9) (kk : ab_V κ ad pc' lo (.int (f i.toNatClampNeg) :: st) h k n) (hp : pc + 1 = pc' := by rfl) : ab_V κ ad pc lo (.int i :: .ref a :: st) h k n := by
  subst hp
  intro p e s m args below meth c H locs ls N tb w hS hl
  exact va_iald N.1 N.2.1 (ab_W_K w he) w.1 a 0 (ab_w_get he) rfl hi hd (kk p e s m args below meth c H locs ls N tb w hS hl)
theorem ab_zald {a N9 : Nat} {f : Nat → Int32} {i : Int32} (pc' : Nat) (hd : decode κ.2.1.2.1 pc = .ok (.baload, 1)) (he : h[a]? = some (.inl (.boolean, N9, .inl f))) (hi : vp_in i N9) (kk : ab_V κ ad pc' lo (.int (f i.toNatClampNeg) :: st) h k n) (hp : pc + 1 = pc' := by rfl) : ab_V κ ad pc lo (.int i :: .ref a :: st) h k n := by
  subst hp
  intro p e s m args below meth c H locs ls N tb w hS hl
  exact va_zald N.1 N.2.1 (ab_W_K w he) w.1 a 0 (ab_w_get he) rfl hi hd (kk p e s m args below meth c H locs ls N tb w hS hl)
theorem ab_lald {a N9 : Nat} {f : Nat → Int64} {i : Int32} (pc' : Nat) (hd : decode κ.2.1.2.1 pc = .ok (.laload, 1)) (he : h[a]? = some (.inl (.long, N9, .inr (.inl f)))) (hi : vp_in i N9) (kk : ab_V κ ad pc' lo (.long (f i.toNatClampNeg) :: st) h k n) (hp : pc + 1 = pc' := by rfl) : ab_V κ ad pc lo (.int i :: .ref a :: st) h k n := by
  subst hp
  intro p e s m args below meth c H locs ls N tb w hS hl
  exact va_lald N.1 N.2.1 (ab_W_K w he) w.1 a 0 (ab_w_get he) rfl hi hd (kk p e s m args below meth c H locs ls N tb w hS hl)
theorem ab_iast {a N9 : Nat} {f : Nat → Int32} {i : Int32} {x : Int32} {h' : ab_H} (pc' : Nat) (hd : decode κ.2.1.2.1 pc = .ok (.iastore, 1)) (he : h[a]? = some (.inl (.int, N9, .inl f))) (hi : vp_in i N9) (hh : h.set a (.inl (.int, N9, .inl (upd f i.toNatClampNeg x))) = h') (kk : ab_V κ ad pc' lo st h' k n) (hp : pc + 1 = pc' := by rfl) : ab_V κ ad pc lo (.int x :: .int i :: .ref a :: st) h k n := by
  subst hp
  subst hh
  intro p e s m args below meth c H locs ls N tb w hS hl
  exact va_iast N.1 N.2.1 (ab_W_K w he) w.1 w.2.1 hS a 0 (ab_w_get he) rfl hi hd (fun H1 locs1 hP hD hS1 => kk p e s m args below meth c H1 locs1 ls N tb (ab_W_set w he (fun ty y hy => by cases hy; exact w.2.2.2.1 _ _ (List.mem_of_getElem? he)) trivial hP hD) hS1 hl)
theorem ab_last {a N9 : Nat} {f : Nat → Int64} {i : Int32} {x : Int64} {h' : ab_H} (pc' : Nat) (hd : decode κ.2.1.2.1 pc = .ok (.lastore, 1)) (he : h[a]? = some (.inl (.long, N9, .inr (.inl f)))) (hi : vp_in i N9) (hh : h.set a (.inl (.long, N9, .inr (.inl (vp_updL f i.toNatClampNeg x)))) = h') (kk : ab_V κ ad pc' lo st h' k n) (hp : pc + 1 = pc' := by rfl) : ab_V κ ad pc lo (.long x :: .int i :: .ref a :: st) h k n := by
  subst hp
  subst hh
  intro p e s m args below meth c H locs ls N tb w hS hl
  exact va_last N.1 N.2.1 (ab_W_K w he) w.1 w.2.1 hS a 0 (ab_w_get he) rfl hi hd (fun H1 locs1 hP hD hS1 => kk p e s m args below meth c H1 locs1 ls N tb (ab_W_set w he (fun ty y hy => by cases hy; exact w.2.2.2.1 _ _ (List.mem_of_getElem? he)) trivial hP hD) hS1 hl)
end ABR
