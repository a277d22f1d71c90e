/-! contracts over my heaps, calls, fields, ends -/
theorem ab_cats {ad : Nat → Nat} (vs : List Value) : ((vs.map (ab_v ad)).map fun v => v.category) = vs.map fun v => v.category := by
  induction vs with
  | nil => rfl
  | cons v vs ih => simp only [List.map_cons, ab_cat, ih]
theorem ab_args {ad : Nat → Nat} (vs : List Value) : ∀ i : Nat, lv_args i (vs.map (ab_v ad)) = ab_lo ad (lv_args i vs) := by
  induction vs with
  | nil => intro i; rfl
  | cons v vs ih => intro i; simp only [List.map_cons, lv_args, ab_lo, ab_cat, ih]
theorem ab_sl {ad : Nat → Nat} (vs : List Value) : (lg_sl (vs.map (ab_v ad))).length = (lg_sl vs).length := by
  induction vs with
  | nil => rfl
  | cons v vs ih =>
    have h1 : lg_sl (v :: vs) = (if v.category = 2 then [.val v, .second] else [.val v]) ++ lg_sl vs := by simp [lg_sl]
    have h2 : lg_sl ((v :: vs).map (ab_v ad)) = (if (ab_v ad v).category = 2 then [.val (ab_v ad v), .second] else [.val (ab_v ad v)]) ++ lg_sl (vs.map (ab_v ad)) := by simp [lg_sl]
    rw [h1, h2, ab_cat]
    by_cases hc : v.category = 2
    · simp [hc, ih]
    · simp [hc, ih]
theorem ab_X_warm {B : Nat} {s U : State} {locs : List Loc} (hW : s.WarmedH U.vm) (hS : va_S (ab_A B) s.heap U.heap locs) (h : ab_X B s) : ab_X B U := by
  obtain ⟨h1, h2, h3, h4, h5, h6, h7⟩ := h
  have hq : ∀ a : Nat, a < s.heap.size → ¬ ab_A B a → U.heap[a]? = s.heap[a]? := fun a ha hn => hS.2.1 a ha hn
  refine ⟨vx_Zq.kept (vx_Zq.moved hW.alike h1) hq, vx_Zq.kept (vx_Zq.moved hW.alike h2) hq, fun x hx => ?_, fun q hq => ?_, fun q hq => va_Nc.moved hW.alike (h5 q hq), fun q hq => ?_, va_AOA.moved hW.alike h7⟩
  · exact va_tabs (A := #[]) (u := s.setVm U.vm) rfl rfl (by rw [Cond.declares_setVm hW.alike]; exact h3 x hx)
  · exact va_tabs (A := #[]) (u := s.setVm U.vm) rfl rfl (by rw [Cond.castable_setVm hW.alike]; exact h4 q hq)
  · obtain ⟨sa, z⟩ := h6 q hq
    exact ⟨sa, vk_R.warm hW z⟩
theorem ab_X_calling {B : Nat} {U : State} {g : JFrame} {mk : MethodId} {a : Array Value} (h : ab_X B U) : ab_X B (U.calling g mk a) := by
  obtain ⟨h1, h2, h3, h4, h5, h6, h7⟩ := h
  refine ⟨h1, h2, fun x hx => va_tabs (A := #[]) (u := U) rfl rfl (h3 x hx), fun q hq => va_tabs (A := #[]) (u := U) rfl rfl (h4 q hq), h5, fun q hq => ?_, va_AOA.moved (Vm.Alike.refl _) h7⟩
  obtain ⟨sa, z⟩ := h6 q hq
  exact ⟨sa, vk_R.same rfl z⟩
def ab_Bc0 (D : va_G) (B : Nat) (ad : Nat → Nat) (h : ab_H) (U : State) : Prop := B ≤ U.heap.size ∧ ab_X B U ∧ ab_W D B ad h U U.heap
theorem ab_blind {D : va_G} {B : Nat} {ad : Nat → Nat} {h : ab_H} {av : List Value} : FrameBlind (va_Pc av (ab_Bc0 D B ad h)) := by
  intro a U g mk hP
  exact ⟨hP.1, hP.2.1, ab_X_calling hP.2.2.1, hP.2.2.2⟩
abbrev ab_O : Type := Except String (Option Value)
def ab_Qc (D : va_G) (B : Nat) (ad : Nat → Nat) (o : ab_O) (h : ab_H) : Array Value → State → Outcome → State → Prop := fun _ st oc t =>
  (∃ v : Option Value, o = .ok v ∧ oc = .returned (v.map (ab_v ad)) ∧ ab_W D B ad h t t.heap) ∧ va_F (ab_A B) st t
def ab_XC (D : va_G) (B : Nat) (ad : Nat → Nat) (o : ab_O) (h : ab_H) : String → State → State → Prop := fun E st t =>
  o = .error E ∧ ab_W D B ad h t t.heap ∧ va_F (ab_A B) st t
/-- method y, called with av over h: it answers or throws o, over h' -/
def ab_Met (y : ab_Y) (rm : Room) (av : List Value) (h : ab_H) (o : ab_O) (h' : ab_H) : Prop := ∀ (l : Launch) (D : va_G) (B : Nat) (ad : Nat → Nat), l.stackTraces = false →
  vx_Met l y.1 (ab_ws y) rm (va_Pc (av.map (ab_v ad)) (ab_Bc0 D B ad h)) (ab_Qc D B ad o h') (ab_XC D B ad o h') rm.cells rm.slots (ab_A B)
def ab_TB (y : ab_Y) : State → Code → (Nat → Nat) → Prop := fun _ c _ => c.exceptionTable.toList.map (fun x => (x.startPc, x.endPc, x.handlerPc, x.catchType)) = y.2.2.2.2.getD []
abbrev ab_km (l : Launch) (D : va_G) (B : Nat) (ad : Nat → Nat) (y : ab_Y) (rm : Room) (o : ab_O) (h' : ab_H) : ab_K :=
  ((l, D, B), y, rm, (fun below args s => vx_MQ below (ab_Qc D B ad o h') (ab_XC D B ad o h') args s rm.cells rm.slots (ab_A B)), ab_TB y)
theorem ab_start {y : ab_Y} {rm : Room} {av : List Value} {h : ab_H} {o : ab_O} {h' : ab_H} (hy : plainName y.1.cls = true) (hh : y.2.2.2.2 = none) (hn : (lg_sl av).length ≤ y.2.2.1)
    (body : ∀ (l : Launch) (D : va_G) (B : Nat) (ad : Nat → Nat), ab_V (ab_km l D B ad y rm o h') ad 0 (lv_args 0 av) [] h 0 0) : ab_Met y rm av h o h' := by
  intro l D B ad hl
  refine vx_ofW (cc := y.2.1) (maxL := y.2.2.1) (ret := y.2.2.2.1) (ws' := ab_G) hy (by unfold ab_ws ab_cw; rw [hh]) ?_
  intro p e s m args below meth c s₁ Bd hml hex hP
  obtain ⟨ha, hB, hX, hw⟩ := hP
  subst ha
  have hts := atoms_spec (ws := ab_ws y) Bd.pre
  rw [lg_entry_eq]
  refine body l D B ad p e s m _ below meth c s.heap [] _ ⟨Bd.exec, Bd.bytes, Bd.returns, hml, findClass_of_methodNamed Bd.named, fun w hw => hts w (List.mem_cons_of_mem _ hw), Bd.notSynchronized, hl, fun hi => (name_of_methodNamed Bd.named Bd.method).1.trans hi, hB, hX⟩ ?_ hw va_S.rf ?_
  · show c.exceptionTable.toList.map _ = y.2.2.2.2.getD []
    rw [hh]
    cases hx : c.exceptionTable.toList with
    | nil => rfl
    | cons x xs => exact absurd (hex x (by rw [hx]; exact List.mem_cons_self)) id
  · have h9 := lv_entry (av.map (ab_v ad)) (n := y.2.2.1) (by rw [ab_sl]; exact hn)
    rw [ab_args] at h9
    exact h9
theorem ab_startH {y : ab_Y} {rm : Room} {av : List Value} {h : ab_H} {o : ab_O} {h' : ab_H} {hs : List (Nat × Nat × Nat × Nat)} (hy : plainName y.1.cls = true) (hh : y.2.2.2.2 = some hs) (hn : (lg_sl av).length ≤ y.2.2.1)
    (body : ∀ (l : Launch) (D : va_G) (B : Nat) (ad : Nat → Nat), ab_V (ab_km l D B ad y rm o h') ad 0 (lv_args 0 av) [] h 0 0) : ab_Met y rm av h o h' := by
  intro l D B ad hl
  refine vx_ofWH (cc := y.2.1) (maxL := y.2.2.1) (ret := y.2.2.2.1) (hh := hs) (ws' := ab_G) hy (by unfold ab_ws ab_cw; rw [hh]) ?_
  intro p e s m args below meth c s₁ Bd hml hP
  obtain ⟨ha, hB, hX, hw⟩ := hP
  subst ha
  have hts := atoms_spec (ws := ab_ws y) Bd.pre
  rw [lg_entry_eq]
  refine body l D B ad p e s m _ below meth c s.heap [] _ ⟨Bd.exec, Bd.bytes, Bd.returns, hml, findClass_of_methodNamed Bd.named, fun w hw => hts w (List.mem_cons_of_mem _ hw), Bd.notSynchronized, hl, fun hi => (name_of_methodNamed Bd.named Bd.method).1.trans hi, hB, hX⟩ ?_ hw va_S.rf ?_
  · show c.exceptionTable.toList.map _ = y.2.2.2.2.getD []
    have hcw := hts (ab_cw y) List.mem_cons_self
    have hcw2 : ab_cw y = Cond.codeWith y.1 y.2.1 y.2.2.1 y.2.2.2.1 hs := by unfold ab_cw; rw [hh]
    rw [hcw2] at hcw
    obtain ⟨m9, meth9, c9, hn9, h1, h2, h3, h4, h5, -⟩ := Cond.codeWith_spec hcw
    cases hn9.symm.trans Bd.named
    cases Option.some.inj (h1.symm.trans Bd.method)
    cases Option.some.inj (h2.symm.trans (Stand.of_body Bd).code)
    rw [h5, hh]; rfl
  · have h9 := lv_entry (av.map (ab_v ad)) (n := y.2.2.1) (by rw [ab_sl]; exact hn)
    rw [ab_args] at h9
    exact h9
section ABQ
variable {l : Launch} {D : va_G} {B : Nat} {ad : Nat → Nat} {y : ab_Y} {rm : Room} {o : ab_O} {h h' : ab_H} {pc k n : Nat} {lo : List (Nat × Value)}
theorem ab_ireturn {x : Int32} (hd : decode y.2.1 pc = .ok (.ireturn, 1)) (hr : y.2.2.2.1 = some .int) (ho : o = .ok (some (.int x))) (hh : h = h') (hk : k ≤ rm.cells) (hn : n ≤ rm.slots) : ab_V (ab_km l D B ad y rm o h') ad pc lo [.int x] h k n := by
  subst ho
  subst hh
  intro p e s m args below meth c H locs ls N tb w hS hl
  refine W.widen hk hn (vx_ret (W.iret N.1 N.2.1 (N.2.2.1.trans hr) (fun t ht hW => ⟨⟨some (.int x), rfl, rfl, ?_⟩, hS.F ht⟩) (fun q hq => hS.2.2 q hq) hd N.2.2.2.2.2.2.1))
  rw [ht]
  exact ab_W_moved hW.alike w
theorem ab_lreturn {x : Int64} (hd : decode y.2.1 pc = .ok (.lreturn, 1)) (hr : y.2.2.2.1 = some .long) (ho : o = .ok (some (.long x))) (hh : h = h') (hk : k ≤ rm.cells) (hn : n ≤ rm.slots) : ab_V (ab_km l D B ad y rm o h') ad pc lo [.long x] h k n := by
  subst ho
  subst hh
  intro p e s m args below meth c H locs ls N tb w hS hl
  refine W.widen hk hn (vx_ret (W.lret N.1 N.2.1 (N.2.2.1.trans hr) (fun t ht hW => ⟨⟨some (.long x), rfl, rfl, ?_⟩, hS.F ht⟩) (fun q hq => hS.2.2 q hq) hd N.2.2.2.2.2.2.1))
  rw [ht]
  exact ab_W_moved hW.alike w
theorem ab_zreturn {x : Int32} (hd : decode y.2.1 pc = .ok (.ireturn, 1)) (hr : y.2.2.2.1 = some .boolean) (hz : narrow .boolean (.int x) = .int x) (ho : o = .ok (some (.int x))) (hh : h = h') (hk : k ≤ rm.cells) (hn : n ≤ rm.slots) : ab_V (ab_km l D B ad y rm o h') ad pc lo [.int x] h k n := by
  subst ho
  subst hh
  intro p e s m args below meth c H locs ls N tb w hS hl
  refine W.widen hk hn (vx_ret (W.zret N.1 N.2.1 (N.2.2.1.trans hr) hz (fun t ht hW => ⟨⟨some (.int x), rfl, rfl, ?_⟩, hS.F ht⟩) (fun q hq => hS.2.2 q hq) hd N.2.2.2.2.2.2.1))
  rw [ht]
  exact ab_W_moved hW.alike w
theorem ab_return (hd : decode y.2.1 pc = .ok (.return_, 1)) (hr : y.2.2.2.1 = none) (ho : o = .ok none) (hh : h = h') (hk : k ≤ rm.cells) (hn : n ≤ rm.slots) : ab_V (ab_km l D B ad y rm o h') ad pc lo [] h k n := by
  subst ho
  subst hh
  intro p e s m args below meth c H locs ls N tb w hS hl
  refine W.widen hk hn (vx_ret (W.vret N.1 N.2.1 (N.2.2.1.trans hr) (fun t ht hW => ⟨⟨none, rfl, rfl, ?_⟩, hS.F ht⟩) (fun q hq => hS.2.2 q hq) hd N.2.2.2.2.2.2.1))
  rw [ht]
  exact ab_W_moved hW.alike w
/-- what is known of a throw at a place of class own -/
def ab_te (own : String) (ik is ic : Nat) (cls : String) (ix : Nat) (rx : ByteArray) (names : List String) (text : String) : Prop :=
  Bundle.fit cls = true ∧ (∀ n ∈ names, Bundle.fit n = true) ∧ Cond.classLink own ik cls ∈ ab_G ∧ Cond.initialized cls ∈ ab_G ∧ (own, is, text) ∈ ab_txt ∧
  (decode rx 0 = .ok (.aload_n 0, 1) ∧ decode rx 1 = .ok (.aload_n 1, 1) ∧ decode rx 2 = .ok (.invokespecial ix, 3) ∧ decode rx 5 = .ok (.return_, 1)) ∧
  (∀ w ∈ ab_atX own ic cls ix rx names, w ∈ ab_G ∨ (∃ x ∈ ab_Bd, w = .declares x) ∨ ∃ q ∈ ab_Bc, w = .castable q.1 q.2) ∧ ∀ w ∈ Cond.classLink own ik cls :: Cond.initialized cls :: ab_atX own ic cls ix rx names, vx_ot w = true
theorem ab_at {L : List Cond} (ps : List Nat) (h1 : L.filter goodWord = ps.filterMap (fun i => lw_tbl[i]?)) (h2 : (L.filter (fun w => !goodWord w)).all (fun w => match w with
    | .declares x => decide (x ∈ ab_Bd)
    | .castable a b => decide ((a, b) ∈ ab_Bc)
    | _ => false) = true) : ∀ w ∈ L, w ∈ ab_G ∨ (∃ x ∈ ab_Bd, w = .declares x) ∨ ∃ q ∈ ab_Bc, w = .castable q.1 q.2 := by
  intro w hw
  by_cases hg : goodWord w = true
  · left
    have h3 : w ∈ L.filter goodWord := List.mem_filter.mpr ⟨hw, hg⟩
    rw [h1, List.mem_filterMap] at h3
    obtain ⟨i, -, hi⟩ := h3
    exact List.mem_filter.mpr ⟨List.mem_of_getElem? hi, hg⟩
  · right
    have h3 := List.all_eq_true.mp h2 w (List.mem_filter.mpr ⟨hw, by simpa using hg⟩)
    split at h3
    · exact Or.inl ⟨_, of_decide_eq_true h3, rfl⟩
    · exact Or.inr ⟨_, of_decide_eq_true h3, rfl⟩
    · cases h3
theorem ab_throw {ik is ic ix : Nat} {rx : ByteArray} {cls : String} {names : List String} {text : String} (hev : ab_te y.1.cls ik is ic cls ix rx names text) (hy : y.2.2.2.2 = none)
    (d0 : decode y.2.1 pc = .ok (.new ik, 3)) (d3 : decode y.2.1 (pc + 3) = .ok (.dup, 1)) (d4 : decode y.2.1 (pc + 4) = .ok (.ldc is, 2)) (d6 : decode y.2.1 (pc + 6) = .ok (.invokespecial ic, 3)) (d9 : decode y.2.1 (pc + 9) = .ok (.athrow, 1))
    (hRf : names.length + 3 < rm.frames) (hRl : 13 * (names.length + 1) + 43 ≤ rm.locals) (ho : o = .error cls) (hh : h = h') (hk : k + 1 ≤ rm.cells) (hn : n + 6 ≤ rm.slots) : ab_V (ab_km l D B ad y rm o h') ad pc lo [] h k n := by
  subst ho
  subst hh
  intro p e s m args below meth c H locs ls N tb w hS hl
  obtain ⟨e1, e2, e3, e4, e5, ⟨x0, x1, x2, x5⟩, e6, e7⟩ := hev
  obtain ⟨N1, N2, N3, N4, N5, N6, N7, N8, Nn, N9, X1, X2, X3, X4, X5, X6, X7⟩ := N
  obtain ⟨sa, hsa⟩ := X6 _ e5
  refine ab_thr (A := ab_A B) (sa := sa) (text := text) (ix := ix) (rx := rx) x0 x1 x2 x5 N1 N2 N8 N5 e1 e2 (N6 _ e3) (N6 _ e4) hsa (fun w hw => ?_) e7 X1 X2 hS (by rw [hl.1, N4]) d0 d3 d4 d6 d9 ?_ hRf ?_ hk hn N7 (fun t ht hz hq => ⟨rfl, ?_, ?_⟩) (fun z hz => hS.2.2 z hz) hk hn
  · rcases e6 w hw with h1 | ⟨x, hx, rfl⟩ | ⟨q, hq, rfl⟩
    · exact N6 w h1
    · exact va_any rfl (X3 x hx)
    · exact va_any rfl (X4 q hq)
  · intro x hx
    have tb2 : c.exceptionTable.toList.map (fun x => (x.startPc, x.endPc, x.handlerPc, x.catchType)) = y.2.2.2.2.getD [] := tb
    rw [hy] at tb2
    have h0 : c.exceptionTable.toList = [] := List.map_eq_nil_iff.mp tb2
    rw [h0] at hx
    cases hx
  · show 0 + (13 * (names.length + 1) + 43) ≤ rm.locals
    rw [Nat.zero_add]; exact hRl
  · have w2 : ab_W D B ad h t H := ab_W_moved ht w
    exact ab_W_kept w2 hq
  · exact ⟨Nat.le_trans hS.1 hz, fun q h1 h2 => by rw [hq q (Nat.lt_of_lt_of_le h1 hS.1)]; exact hS.2.1 q h1 h2⟩
/-- not caught here -/
theorem ab_out {E : String} {st : List Value} (hy : y.2.2.2.2 = none) (ho : o = .error E) (hh : h = h') (hk : k ≤ rm.cells) (hn : n ≤ rm.slots) : ab_VX (ab_km l D B ad y rm o h') ad pc lo st E h k n := by
  subst ho
  subst hh
  intro p e s m args below meth c H locs ls q ce N tb w hS hl hce hcv hcl
  refine vx_out (E := E) (ce := ce) ?_ N.2.2.2.2.2.2.1 hce hcv hcl (fun t ht hal => ⟨rfl, ?_, hS.F ht⟩) (fun z hz => hS.2.2 z hz) hk hn
  · intro x hx
    have tb2 : c.exceptionTable.toList.map (fun x => (x.startPc, x.endPc, x.handlerPc, x.catchType)) = y.2.2.2.2.getD [] := tb
    rw [hy] at tb2
    have : c.exceptionTable.toList = [] := List.map_eq_nil_iff.mp tb2
    rw [this] at hx
    cases hx
  · rw [ht]
    exact ab_W_moved hal w
end ABQ
/-- what a call needs to know of method y -/
def ab_okV (y : ab_Y) (nn : Nat) : Prop :=
  ab_cw y ∈ ab_G ∧ Cond.initialized y.1.cls ∈ ab_G ∧ (y.1.cls ≠ "java/lang/invoke/MethodHandle" ∧ y.1.cls ≠ "java/lang/invoke/VarHandle") ∧ (parseMethodDescriptor y.1.desc).map (fun d => d.parameters.length) = some nn ∧ Cond.instanceMethod y.1 ∈ ab_G ∧ Cond.selects y.1.cls y.1 y.1 ∈ ab_G
def ab_okS (y : ab_Y) (nn : Nat) : Prop :=
  ab_cw y ∈ ab_G ∧ Cond.initialized y.1.cls ∈ ab_G ∧ (y.1.cls ≠ "java/lang/invoke/MethodHandle" ∧ y.1.cls ≠ "java/lang/invoke/VarHandle") ∧ (parseMethodDescriptor y.1.desc).map (fun d => d.parameters.length) = some nn ∧ Cond.static y.1 ∈ ab_G
section ABC
variable {κ : ab_K} {ad : Nat → Nat} {p : Program} {e : Env} {s : State} {m : MethodId} {args : Array Value} {below : List Frame} {meth : Method} {c : Code} {H : Heap} {locs : List Loc} {ls : Array Slot} {k n pc : Nat} {lo : List (Nat × Value)} {h h' : ab_H} {y : ab_Y} {rm : Room} {o : ab_O} {As : List Value} {idx nn : Nat} {rest : List Value}
theorem ab_inG {w : Cond} (hw : w ∈ ab_G) : goodWord w = true := (List.mem_filter.mp hw).2
theorem ab_pay (N : ab_N κ.1.2.2 κ.2.1 p κ.1.1 s m args meth c) (hy : ab_cw y ∈ ab_G) : ∀ w ∈ ab_ws y, ∀ (a' : Array Value) (U : State), s.WarmedH U.vm → w.before a' U = true := by
  intro w hw a' U hW
  have hG : w ∈ ab_G := by
    rcases List.mem_cons.mp hw with h1 | h1
    · rw [h1]; exact hy
    · exact h1
  exact word_at hW (good_of_word (ab_inG hG)) (N.2.2.2.2.2.1 w hG)
theorem ab_len {nn : Nat} (h : (parseMethodDescriptor y.1.desc).map (fun d => d.parameters.length) = some nn) : ∀ sig, parseMethodDescriptor y.1.desc = some sig → nn = sig.parameters.length := by
  intro sig hs
  rw [hs] at h
  exact (Option.some.inj h).symm
theorem ab_pre (N : ab_N κ.1.2.2 κ.2.1 p κ.1.1 s m args meth c) (w : ab_W κ.1.2.1 κ.1.2.2 ad h s H) (hS : va_S (ab_A κ.1.2.2) s.heap H locs) {U : State} (hU : U.heap = H) (hW : s.WarmedH U.vm) : ab_Bc0 κ.1.2.1 κ.1.2.2 ad h U := by
  obtain ⟨N1, N2, N3, N4, N5, N6, N7, N8, Nn, N9, X⟩ := N
  subst hU
  exact ⟨Nat.le_trans N9 hS.1, ab_X_warm hW hS X, ab_W_moved hW.alike w⟩
theorem ab_runV (N : ab_N κ.1.2.2 κ.2.1 p κ.1.1 s m args meth c) (w : ab_W κ.1.2.1 κ.1.2.2 ad h s H) (hS : va_S (ab_A κ.1.2.2) s.heap H locs) (hl : lv_has ls κ.2.1.2.2.1 (ab_lo ad lo))
    {b ci : Nat} {fs : List Value} (hd : decode κ.2.1.2.1 pc = .ok (.invokevirtual idx, 3)) (hy : ab_okV y nn) (hh : y.2.2.2.2 = none) (hlk : Cond.methodLink κ.2.1.1.cls idx y.1 ∈ ab_G) (hM : ab_Met y rm (.ref b :: As) h o h') (hn : As.length = nn)
    (he : h[b]? = some (.inr (ci, fs))) (hc : (ab_cl[ci]?).map (fun q => q.1) = some y.1.cls) (hR : rm.frames + 1 ≤ κ.2.2.1.frames ∧ 8 + (y.2.2.1 + 11) + rm.locals ≤ κ.2.2.1.locals) (hW : (rest.map fun v => v.category).sum ≤ 8) (hf : k + rm.cells ≤ κ.2.2.1.cells ∧ n + rm.slots ≤ κ.2.2.1.slots) :
    vx_Run p κ.1.1 e κ.2.2.1 s m args below meth c H locs k n rm.cells rm.slots (F0 m pc ls ((As.reverse ++ .ref b :: rest).map (ab_v ad))) (rest.map (ab_v ad)) (ab_Qc κ.1.2.1 κ.1.2.2 ad o h' (Value.ref (ad b) :: As.map (ab_v ad)).toArray) (ab_XC κ.1.2.1 κ.1.2.2 ad o h') (ab_A κ.1.2.2) := by
  obtain ⟨y1, y2, y3, y4, y5⟩ := hy
  have y6 : Cond.instanceMethod y.1 ∈ ab_G ∧ Cond.selects y.1.cls y.1 y.1 ∈ ab_G := y5
  have hcw : ab_cw y = Cond.code y.1 y.2.1 y.2.2.1 y.2.2.2.1 := by unfold ab_cw; rw [hh]
  have ok : ∀ w ∈ ab_G, w.before args s = true := N.2.2.2.2.2.1
  have hcell : ∃ cellB : Cell, H[ad b]? = some cellB ∧ cellB.vm.isStatics = false ∧ s.vm.findClass y.1.cls = some cellB.cls := by
    obtain ⟨r, h1, cell, q1, q2, q3, q4⟩ := w.1 b _ (ab_w_get he)
    have hK := w.2.2.1.1 ci r h1
    rw [h1] at hc
    have hrc : r.1 = y.1.cls := Option.some.inj hc
    refine ⟨cell, q1, by rw [q3]; rfl, ?_⟩
    rw [q2, ← hrc]
    exact hK.2.1
  refine vx_runV (Ts := ab_G) (own := κ.2.1.1.cls) (cc := κ.2.1.2.1) (nL := κ.2.1.2.2.1) (C := y.1.cls) (index := idx) (y := y.1) (bytes := y.2.1) (maxL := y.2.2.1) (ret := y.2.2.2.1) (ws := ab_ws y) (rm := rm) (n := nn) (As := As.map (ab_v ad)) (b := ad b) (rest := rest.map (ab_v ad))
    ⟨N.1, N.2.1, N.2.2.2.1, N.2.2.2.2.1, ok⟩ (hM κ.1.1 κ.1.2.1 κ.1.2.2 ad N.2.2.2.2.2.2.2.1)
    ⟨⟨rfl, rfl, hR.1, hR.2, ab_pay N y1, by rw [← hcw]; exact List.mem_cons_self, by rw [← hcw]; exact ok _ y1, ok _ y2, y3, ab_len y4, ok _ hlk⟩, ok _ y6.1, ok _ y6.2⟩
    ⟨ab_blind, hcell, fun U hU hW2 => ⟨rfl, ab_pre N w hS hU hW2⟩⟩ rfl (by rw [List.length_map]; exact hn) hl.1 ?_ ?_ hd hf
  · show (As.reverse ++ .ref b :: rest).map (ab_v ad) = (As.map (ab_v ad)).reverse ++ .ref (ad b) :: rest.map (ab_v ad)
    simp [ab_v]
  · show 2 * 0 + ((rest.map (ab_v ad)).map fun v => v.category).sum ≤ 8
    rw [ab_cats]; simpa using hW
theorem ab_runS (N : ab_N κ.1.2.2 κ.2.1 p κ.1.1 s m args meth c) (w : ab_W κ.1.2.1 κ.1.2.2 ad h s H) (hS : va_S (ab_A κ.1.2.2) s.heap H locs) (hl : lv_has ls κ.2.1.2.2.1 (ab_lo ad lo))
    (hd : decode κ.2.1.2.1 pc = .ok (.invokestatic idx, 3)) (hy : ab_okS y nn) (hlk : Cond.methodLink κ.2.1.1.cls idx y.1 ∈ ab_G) (hM : ab_Met y rm As h o h') (hn : As.length = nn)
    (hR : rm.frames + 1 ≤ κ.2.2.1.frames ∧ 8 + (y.2.2.1 + 11) + rm.locals ≤ κ.2.2.1.locals) (hW : (rest.map fun v => v.category).sum ≤ 8) (hf : k + rm.cells ≤ κ.2.2.1.cells ∧ n + rm.slots ≤ κ.2.2.1.slots) :
    vx_Run p κ.1.1 e κ.2.2.1 s m args below meth c H locs k n rm.cells rm.slots (F0 m pc ls ((As.reverse ++ rest).map (ab_v ad))) (rest.map (ab_v ad)) (ab_Qc κ.1.2.1 κ.1.2.2 ad o h' (As.map (ab_v ad)).toArray) (ab_XC κ.1.2.1 κ.1.2.2 ad o h') (ab_A κ.1.2.2) := by
  obtain ⟨y1, y2, y3, y4, y5⟩ := hy
  have y6 : Cond.static y.1 ∈ ab_G := y5
  have ok : ∀ w ∈ ab_G, w.before args s = true := N.2.2.2.2.2.1
  have hst : (F0 m pc ls ((As.reverse ++ rest).map (ab_v ad))).stack = (As.map (ab_v ad)).reverse ++ rest.map (ab_v ad) := by
    show (As.reverse ++ rest).map (ab_v ad) = (As.map (ab_v ad)).reverse ++ rest.map (ab_v ad)
    simp
  have hW9 : 2 * (F0 m pc ls ((As.reverse ++ rest).map (ab_v ad))).monitorRoom + ((rest.map (ab_v ad)).map fun v => v.category).sum ≤ 8 := by
    show 2 * 0 + ((rest.map (ab_v ad)).map fun v => v.category).sum ≤ 8
    rw [ab_cats]; simpa using hW
  cases hh : y.2.2.2.2 with
  | none =>
    have hcw : ab_cw y = Cond.code y.1 y.2.1 y.2.2.1 y.2.2.2.1 := by unfold ab_cw; rw [hh]
    exact vx_runS (Ts := ab_G) (own := κ.2.1.1.cls) (cc := κ.2.1.2.1) (nL := κ.2.1.2.2.1) (index := idx) (y := y.1) (bytes := y.2.1) (maxL := y.2.2.1) (ret := y.2.2.2.1) (ws := ab_ws y) (rm := rm) (n := nn) (As := As.map (ab_v ad)) (rest := rest.map (ab_v ad))
      ⟨N.1, N.2.1, N.2.2.2.1, N.2.2.2.2.1, ok⟩ (hM κ.1.1 κ.1.2.1 κ.1.2.2 ad N.2.2.2.2.2.2.2.1)
      ⟨⟨rfl, rfl, hR.1, hR.2, ab_pay N y1, by rw [← hcw]; exact List.mem_cons_self, by rw [← hcw]; exact ok _ y1, ok _ y2, y3, ab_len y4, ok _ hlk⟩, ok _ y6⟩
      ⟨ab_blind, fun U hU hW2 => ⟨rfl, ab_pre N w hS hU hW2⟩⟩ rfl (by rw [List.length_map]; exact hn) hl.1 hst hW9 hd hf
  | some hs =>
    have hcw : ab_cw y = Cond.codeWith y.1 y.2.1 y.2.2.1 y.2.2.2.1 hs := by unfold ab_cw; rw [hh]
    exact vx_runSX (hh := hs) (Ts := ab_G) (own := κ.2.1.1.cls) (cc := κ.2.1.2.1) (nL := κ.2.1.2.2.1) (index := idx) (y := y.1) (bytes := y.2.1) (maxL := y.2.2.1) (ret := y.2.2.2.1) (ws := ab_ws y) (rm := rm) (n := nn) (As := As.map (ab_v ad)) (rest := rest.map (ab_v ad))
      ⟨N.1, N.2.1, N.2.2.2.1, N.2.2.2.2.1, ok⟩ (hM κ.1.1 κ.1.2.1 κ.1.2.2 ad N.2.2.2.2.2.2.2.1)
      ⟨⟨rfl, rfl, hR.1, hR.2, ab_pay N y1, by rw [← hcw]; exact List.mem_cons_self⟩, by rw [← hcw]; exact ok _ y1, ok _ y2, y3, ab_len y4, ok _ hlk, ok _ y6⟩
      ⟨ab_blind, fun U hU hW2 => ⟨rfl, ab_pre N w hS hU hW2⟩⟩ rfl (by rw [List.length_map]; exact hn) hl.1 hst hW9 hd hf
/-- behind a call that returns -/
theorem ab_behind {v : Option Value} {st : List Value} {mc ms : Nat} {a : Array Value} (N : ab_N κ.1.2.2 κ.2.1 p κ.1.1 s m args meth c) (tb : κ.2.2.2.2 s c ad) (hS : va_S (ab_A κ.1.2.2) s.heap H locs) (hl : lv_has ls κ.2.1.2.2.1 (ab_lo ad lo))
    (hr : vx_Run p κ.1.1 e κ.2.2.1 s m args below meth c H locs k n mc ms (F0 m pc ls st) (rest.map (ab_v ad)) (ab_Qc κ.1.2.1 κ.1.2.2 ad (.ok v) h' a) (ab_XC κ.1.2.1 κ.1.2.2 ad (.ok v) h') (ab_A κ.1.2.2))
    (kk : ab_V κ ad (pc + 3) lo (v.toList ++ rest) h' (k + mc) (n + ms)) : W p κ.1.1 e κ.2.2.1 s m args below meth c H locs k n (κ.2.2.2.1 below args s) (F0 m pc ls st) := by
  intro T hT X
  rcases hr T hT X with ⟨v', st₀, t, T', L, h0, X', hL, e1, e2, ⟨⟨v2, ho, hv, hw1⟩, hF⟩, sts⟩ | ⟨q, st₀, t, T', L, E, ce, h0, X', hL, e1, e2, ⟨ho, hw1, hF⟩, hce, hcv, hcl, sts⟩
  · cases ho
    cases hv
    obtain ⟨k1, k2, k3⟩ := vx_keep (A0 := ab_A κ.1.2.2) (A1 := ab_A κ.1.2.2) h0 e1 hS (fun _ _ z => z) (fun _ z => z) hL hF
    have hal : s.vm.Alike t.vm := by rw [← e2]; exact X'.warmed.alike
    have hw2 : ab_W κ.1.2.1 κ.1.2.2 ad h' s T'.heap := by rw [e1]; exact ab_W_moved hal.symm hw1
    obtain ⟨t2, a1, b1⟩ := kk p e s m args below meth c T'.heap (locs ++ L) ls N tb hw2 k3 hl T' rfl X'
    refine ⟨t2, sts t2 ?_, b1⟩
    have e9 : (v.map (ab_v ad)).toList ++ rest.map (ab_v ad) = (v.toList ++ rest).map (ab_v ad) := by cases v <;> simp
    show Steps p.tables e below (T'.setTop { method := m, pc := pc + 3, locals := ls, stack := (v.map (ab_v ad)).toList ++ rest.map (ab_v ad), locked := none }) t2
    rw [e9]
    exact a1
  · cases ho
/-- behind a call that throws -/
theorem ab_behindX {E : String} {st : List Value} {mc ms : Nat} {a : Array Value} (N : ab_N κ.1.2.2 κ.2.1 p κ.1.1 s m args meth c) (tb : κ.2.2.2.2 s c ad) (hS : va_S (ab_A κ.1.2.2) s.heap H locs) (hl : lv_has ls κ.2.1.2.2.1 (ab_lo ad lo))
    (hr : vx_Run p κ.1.1 e κ.2.2.1 s m args below meth c H locs k n mc ms (F0 m pc ls st) (rest.map (ab_v ad)) (ab_Qc κ.1.2.1 κ.1.2.2 ad (.error E) h' a) (ab_XC κ.1.2.1 κ.1.2.2 ad (.error E) h') (ab_A κ.1.2.2))
    (kk : ab_VX κ ad pc lo rest E h' (k + mc) (n + ms)) : W p κ.1.1 e κ.2.2.1 s m args below meth c H locs k n (κ.2.2.2.1 below args s) (F0 m pc ls st) := by
  intro T hT X
  rcases hr T hT X with ⟨v', st₀, t, T', L, h0, X', hL, e1, e2, ⟨⟨v2, ho, hv, hw1⟩, hF⟩, sts⟩ | ⟨q, st₀, t, T', L, E2, ce, h0, X', hL, e1, e2, ⟨ho, hw1, hF⟩, hce, hcv, hcl, sts⟩
  · cases ho
  · cases ho
    obtain ⟨k1, k2, k3⟩ := vx_keep (A0 := ab_A κ.1.2.2) (A1 := ab_A κ.1.2.2) h0 e1 hS (fun _ _ z => z) (fun _ z => z) hL hF
    have hal : s.vm.Alike t.vm := by rw [← e2]; exact X'.warmed.alike
    have hw2 : ab_W κ.1.2.1 κ.1.2.2 ad h' s T'.heap := by rw [e1]; exact ab_W_moved hal.symm hw1
    obtain ⟨t2, a1, b1⟩ := kk p e s m args below meth c T'.heap (locs ++ L) ls q ce N tb hw2 k3 hl (by rw [e1]; exact hce) hcv hcl T' rfl X'
    exact ⟨t2, sts.trans a1, b1⟩
end ABC
section ABD
variable {κ : ab_K} {ad : Nat → Nat} {k n pc : Nat} {lo : List (Nat × Value)} {st : List Value} {h : ab_H} {y : ab_Y} {rm : Room} {As rest : List Value} {idx nn : Nat}
theorem ab_callV {b ci : Nat} {fs : List Value} {h' : ab_H} {v : Option Value} (pc' k' n' : Nat) (rest st' : List Value) (hd : decode κ.2.1.2.1 pc = .ok (.invokevirtual idx, 3)) (hy : ab_okV y nn) (hlk : Cond.methodLink κ.2.1.1.cls idx y.1 ∈ ab_G) (hM : ab_Met y rm (.ref b :: As) h (.ok v) h') (he : h[b]? = some (.inr (ci, fs))) (hst : As.reverse ++ .ref b :: rest = st) (kk : ab_V κ ad pc' lo st' h' k' n')
    (hh : y.2.2.2.2 = none := by rfl) (hc : (ab_cl[ci]?).map (fun q => q.1) = some y.1.cls := by rfl) (hn : As.length = nn := by rfl) (hR : Nat.ble (rm.frames + 1) κ.2.2.1.frames = true ∧ Nat.ble (8 + (y.2.2.1 + 11) + rm.locals) κ.2.2.1.locals = true := by exact ⟨rfl, rfl⟩) (hW : Nat.ble (rest.map fun v => v.category).sum 8 = true := by rfl) (hf : Nat.ble (k + rm.cells) κ.2.2.1.cells = true ∧ Nat.ble (n + rm.slots) κ.2.2.1.slots = true := by exact ⟨rfl, rfl⟩) (hk' : k + rm.cells = k' := by rfl) (hn' : n + rm.slots = n' := by rfl) (hp : pc + 3 = pc' := by rfl) (hst' : v.toList ++ rest = st' := by rfl) : ab_V κ ad pc lo st h k n := by
  subst hst
  subst hk'
  subst hn'
  subst hp
  subst hst'
  intro p e s m args below meth c H locs ls N tb w hS hl
  exact ab_behind N tb hS hl (ab_runV N w hS hl hd hy hh hlk hM hn he hc ⟨Nat.le_of_ble_eq_true hR.1, Nat.le_of_ble_eq_true hR.2⟩ (Nat.le_of_ble_eq_true hW) ⟨Nat.le_of_ble_eq_true hf.1, Nat.le_of_ble_eq_true hf.2⟩) kk
theorem ab_callVX {b ci : Nat} {fs : List Value} {h' : ab_H} {E : String} (k' n' : Nat) (rest : List Value) (hd : decode κ.2.1.2.1 pc = .ok (.invokevirtual idx, 3)) (hy : ab_okV y nn) (hlk : Cond.methodLink κ.2.1.1.cls idx y.1 ∈ ab_G) (hM : ab_Met y rm (.ref b :: As) h (.error E) h') (he : h[b]? = some (.inr (ci, fs))) (hst : As.reverse ++ .ref b :: rest = st) (kk : ab_VX κ ad pc lo rest E h' k' n')
    (hh : y.2.2.2.2 = none := by rfl) (hc : (ab_cl[ci]?).map (fun q => q.1) = some y.1.cls := by rfl) (hn : As.length = nn := by rfl) (hR : Nat.ble (rm.frames + 1) κ.2.2.1.frames = true ∧ Nat.ble (8 + (y.2.2.1 + 11) + rm.locals) κ.2.2.1.locals = true := by exact ⟨rfl, rfl⟩) (hW : Nat.ble (rest.map fun v => v.category).sum 8 = true := by rfl) (hf : Nat.ble (k + rm.cells) κ.2.2.1.cells = true ∧ Nat.ble (n + rm.slots) κ.2.2.1.slots = true := by exact ⟨rfl, rfl⟩) (hk' : k + rm.cells = k' := by rfl) (hn' : n + rm.slots = n' := by rfl)  : ab_V κ ad pc lo st h k n := by
  subst hst
  subst hk'
  subst hn'
  intro p e s m args below meth c H locs ls N tb w hS hl
  exact ab_behindX N tb hS hl (ab_runV N w hS hl hd hy hh hlk hM hn he hc ⟨Nat.le_of_ble_eq_true hR.1, Nat.le_of_ble_eq_true hR.2⟩ (Nat.le_of_ble_eq_true hW) ⟨Nat.le_of_ble_eq_true hf.1, Nat.le_of_ble_eq_true hf.2⟩) kk
theorem ab_callS {h' : ab_H} {v : Option Value} (pc' k' n' : Nat) (rest st' : List Value) (hd : decode κ.2.1.2.1 pc = .ok (.invokestatic idx, 3)) (hy : ab_okS y nn) (hlk : Cond.methodLink κ.2.1.1.cls idx y.1 ∈ ab_G) (hM : ab_Met y rm (As) h (.ok v) h') (hst : As.reverse ++ rest = st) (kk : ab_V κ ad pc' lo st' h' k' n')
    (hn : As.length = nn := by rfl) (hR : Nat.ble (rm.frames + 1) κ.2.2.1.frames = true ∧ Nat.ble (8 + (y.2.2.1 + 11) + rm.locals) κ.2.2.1.locals = true := by exact ⟨rfl, rfl⟩) (hW : Nat.ble (rest.map fun v => v.category).sum 8 = true := by rfl) (hf : Nat.ble (k + rm.cells) κ.2.2.1.cells = true ∧ Nat.ble (n + rm.slots) κ.2.2.1.slots = true := by exact ⟨rfl, rfl⟩) (hk' : k + rm.cells = k' := by rfl) (hn' : n + rm.slots = n' := by rfl) (hp : pc + 3 = pc' := by rfl) (hst' : v.toList ++ rest = st' := by rfl) : ab_V κ ad pc lo st h k n := by
  subst hst
  subst hk'
  subst hn'
  subst hp
  subst hst'
  intro p e s m args below meth c H locs ls N tb w hS hl
  exact ab_behind N tb hS hl (ab_runS N w hS hl hd hy hlk hM hn ⟨Nat.le_of_ble_eq_true hR.1, Nat.le_of_ble_eq_true hR.2⟩ (Nat.le_of_ble_eq_true hW) ⟨Nat.le_of_ble_eq_true hf.1, Nat.le_of_ble_eq_true hf.2⟩) kk
theorem ab_callSX {h' : ab_H} {E : String} (k' n' : Nat) (rest : List Value) (hd : decode κ.2.1.2.1 pc = .ok (.invokestatic idx, 3)) (hy : ab_okS y nn) (hlk : Cond.methodLink κ.2.1.1.cls idx y.1 ∈ ab_G) (hM : ab_Met y rm (As) h (.error E) h') (hst : As.reverse ++ rest = st) (kk : ab_VX κ ad pc lo rest E h' k' n')
    (hn : As.length = nn := by rfl) (hR : Nat.ble (rm.frames + 1) κ.2.2.1.frames = true ∧ Nat.ble (8 + (y.2.2.1 + 11) + rm.locals) κ.2.2.1.locals = true := by exact ⟨rfl, rfl⟩) (hW : Nat.ble (rest.map fun v => v.category).sum 8 = true := by rfl) (hf : Nat.ble (k + rm.cells) κ.2.2.1.cells = true ∧ Nat.ble (n + rm.slots) κ.2.2.1.slots = true := by exact ⟨rfl, rfl⟩) (hk' : k + rm.cells = k' := by rfl) (hn' : n + rm.slots = n' := by rfl)  : ab_V κ ad pc lo st h k n := by
  subst hst
  subst hk'
  subst hn'
  intro p e s m args below meth c H locs ls N tb w hS hl
  exact ab_behindX N tb hS hl (ab_runS N w hS hl hd hy hlk hM hn ⟨Nat.le_of_ble_eq_true hR.1, Nat.le_of_ble_eq_true hR.2⟩ (Nat.le_of_ble_eq_true hW) ⟨Nat.le_of_ble_eq_true hf.1, Nat.le_of_ble_eq_true hf.2⟩) kk
theorem ab_wid {k' n' : Nat} (kk : ab_V κ ad pc lo st h k' n') (h1 : Nat.ble k k' = true := by rfl) (h2 : Nat.ble n n' = true := by rfl) : ab_V κ ad pc lo st h k n := by
  intro p e s m args below meth c H locs ls N tb w hS hl
  exact W.widen (Nat.le_of_ble_eq_true h1) (Nat.le_of_ble_eq_true h2) (kk p e s m args below meth c H locs ls N tb w hS hl)
/-- fewer locals -/
theorem ab_pick (ks : List Nat) (lo' : List (Nat × Value)) (hp : lv_pick lo ks = lo') (kk : ab_V κ ad pc lo' st h k n) : ab_V κ ad pc lo st h k n := by
  intro p e s m args below meth c H locs ls N tb w hS hl
  refine kk p e s m args below meth c H locs ls N tb w hS (lv_sub hl ks ?_)
  subst hp
  unfold lv_pick ab_lo
  rw [List.map_filterMap]
  congr 1
  funext i
  rw [List.getElem?_map]
/-- what is known of a field, read at a place of class own -/
def ab_fd (own : String) (idx ci kf : Nat) : Prop := ∃ (C : String) (T : u_T) (N : Nat), ab_cl[ci]? = some (C, T, N) ∧ kf < N ∧ (∀ w ∈ u_ws C T N, w ∈ ab_G) ∧ (T kf).1 = C ∧ Cond.fieldLink own idx C (T kf).2.1 (T kf).2.2.1 ∈ ab_G
def ab_fw (own : String) (idx ci kf : Nat) (ty : FieldType) : Prop := ∃ (C : String) (T : u_T) (N : Nat) (ty0 : Nat → FieldType), ab_cl[ci]? = some (C, T, N) ∧ kf < N ∧ (∀ w ∈ u_ws C T N, w ∈ ab_G) ∧ (T kf).1 = C ∧ Cond.fieldLink own idx C (T kf).2.1 (T kf).2.2.1 ∈ ab_G ∧
  (∀ k, k < N → parseFieldDescriptor (T k).2.2.1 = some (ty0 k)) ∧ (∀ a, a < N → ∀ b, b < N → a ≠ b → (T a).2.1 ≠ (T b).2.1) ∧ parseFieldDescriptor (T kf).2.2.1 = some ty ∧ (T kf).2.2.2 = false
theorem ab_get {a ci kf : Nat} {fs : List Value} {v : Value} (pc' : Nat) (hd : decode κ.2.1.2.1 pc = .ok (.getfield idx, 3)) (hf : ab_fd κ.2.1.1.cls idx ci kf) (he : h[a]? = some (.inr (ci, fs))) (hv : fs[kf]? = some v) (kk : ab_V κ ad pc' lo (v :: st) h k n) (hp : pc + 3 = pc' := by rfl) : ab_V κ ad pc lo (.ref a :: st) h k n := by
  subst hp
  obtain ⟨C, T, NN, f1, f2, f3, f4, f5⟩ := hf
  intro p e s m args below meth c H locs ls N tb w hS hl
  refine va_get (Ts := ab_G) (own := κ.2.1.1.cls) (ref := C) (fs := fs.map (ab_v ad)) (v := ab_v ad v) N.1 N.2.1 N.2.2.2.2.2.1 f3 N.2.2.2.2.1 w.2.2.1 w.1 a (ab_w_get he) f1 kf f2 (N.2.2.2.2.2.1 _ f5) (fun x hx => by rw [f4] at hx; exact hx) ?_ hd (kk p e s m args below meth c H locs ls N tb w hS hl)
  rw [List.getElem?_map, hv]; rfl
theorem ab_puti {a ci kf : Nat} {fs : List Value} {x : Int32} {ty : FieldType} {h' : ab_H} (pc' : Nat) (hd : decode κ.2.1.2.1 pc = .ok (.putfield idx, 3)) (hf : ab_fw κ.2.1.1.cls idx ci kf ty) (he : h[a]? = some (.inr (ci, fs))) (hh : h.set a (.inr (ci, fs.set kf (.int x))) = h') (kk : ab_V κ ad pc' lo st h' k n) (hl0 : Nat.blt kf fs.length = true := by rfl) (hnar : narrow ty (.int x) = .int x := by rfl) (hfit : fits ty (.int x) = true := by rfl) (hp : pc + 3 = pc' := by rfl) : ab_V κ ad pc lo (.int x :: .ref a :: st) h k n := by
  subst hp
  subst hh
  obtain ⟨C, T, NN, ty0, f1, f2, f3, f4, f5, f6, f7, f8, f9⟩ := hf
  intro p e s m args below meth c H locs ls N tb w hS hl
  refine va_put (Ts := ab_G) (own := κ.2.1.1.cls) (ref := C) (fs := fs.map (ab_v ad)) (v := .int x) N.1 N.2.1 N.2.2.2.2.2.1 f3 ty0 f6 f7 N.2.2.2.2.1 w.2.2.1 w.1 w.2.1 hS a (ab_w_get he) f1 kf f2 (N.2.2.2.2.2.1 _ f5) (fun x hx => by rw [f4] at hx; exact hx) f9 f8 hnar hfit (by rw [List.length_map]; exact Nat.le_of_ble_eq_true hl0) hd (fun H1 locs1 hP hD hS1 => kk p e s m args below meth c H1 locs1 ls N tb (ab_W_set w he (e' := .inr (ci, fs.set kf (.int x))) (fun ty y hy => by cases hy) ?_ ?_ ?_) hS1 hl)
  · intro v hv p9 hp9
    rcases List.mem_or_eq_of_mem_set hv with h1 | h1
    · exact w.2.2.2.2 _ (List.mem_of_getElem? he) v h1 p9 hp9
    · rw [h1] at hp9; cases hp9
  · show va_P _ _ ((ab_w _ ad h).set a (ad a, .inr (ci, (fs.set kf (.int x)).map (ab_v ad)))) H1
    rw [List.map_set]; exact hP
  · show va_D _ ((ab_w _ ad h).set a (ad a, .inr (ci, (fs.set kf (.int x)).map (ab_v ad))))
    rw [List.map_set]; exact hD
theorem ab_putl {a ci kf : Nat} {fs : List Value} {x : Int64} {ty : FieldType} {h' : ab_H} (pc' : Nat) (hd : decode κ.2.1.2.1 pc = .ok (.putfield idx, 3)) (hf : ab_fw κ.2.1.1.cls idx ci kf ty) (he : h[a]? = some (.inr (ci, fs))) (hh : h.set a (.inr (ci, fs.set kf (.long x))) = h') (kk : ab_V κ ad pc' lo st h' k n) (hl0 : Nat.blt kf fs.length = true := by rfl) (hnar : narrow ty (.long x) = .long x := by rfl) (hfit : fits ty (.long x) = true := by rfl) (hp : pc + 3 = pc' := by rfl) : ab_V κ ad pc lo (.long x :: .ref a :: st) h k n := by
  subst hp
  subst hh
  obtain ⟨C, T, NN, ty0, f1, f2, f3, f4, f5, f6, f7, f8, f9⟩ := hf
  intro p e s m args below meth c H locs ls N tb w hS hl
  refine va_put (Ts := ab_G) (own := κ.2.1.1.cls) (ref := C) (fs := fs.map (ab_v ad)) (v := .long x) N.1 N.2.1 N.2.2.2.2.2.1 f3 ty0 f6 f7 N.2.2.2.2.1 w.2.2.1 w.1 w.2.1 hS a (ab_w_get he) f1 kf f2 (N.2.2.2.2.2.1 _ f5) (fun x hx => by rw [f4] at hx; exact hx) f9 f8 hnar hfit (by rw [List.length_map]; exact Nat.le_of_ble_eq_true hl0) hd (fun H1 locs1 hP hD hS1 => kk p e s m args below meth c H1 locs1 ls N tb (ab_W_set w he (e' := .inr (ci, fs.set kf (.long x))) (fun ty y hy => by cases hy) ?_ ?_ ?_) hS1 hl)
  · intro v hv p9 hp9
    rcases List.mem_or_eq_of_mem_set hv with h1 | h1
    · exact w.2.2.2.2 _ (List.mem_of_getElem? he) v h1 p9 hp9
    · rw [h1] at hp9; cases hp9
  · show va_P _ _ ((ab_w _ ad h).set a (ad a, .inr (ci, (fs.set kf (.long x)).map (ab_v ad)))) H1
    rw [List.map_set]; exact hP
  · show va_D _ ((ab_w _ ad h).set a (ad a, .inr (ci, (fs.set kf (.long x)).map (ab_v ad))))
    rw [List.map_set]; exact hD
theorem ab_iinc {j : Nat} {i : Int} {x : Int32} (pc' : Nat) (lo' : List (Nat × Value)) (hd : decode κ.2.1.2.1 pc = .ok (.iinc j i, 3)) (v : Int32) (hv : Int32.ofInt i = v) (hx : lo.lookup j = some (.int x)) (hlo : (j, Value.int (x + v)) :: lo.filter (fun q => !(q.1 == j) && !(q.1 + 1 == j && q.2.category == 2)) = lo') (kk : ab_V κ ad pc' lo' st h k n) (hn : Nat.blt j κ.2.1.2.2.1 = true := by rfl) (hp : pc + 3 = pc' := by rfl) : ab_V κ ad pc lo st h k n := by
  subst hp
  subst hlo
  subst hv
  intro p e s m args below meth c H locs ls N tb w hS hl
  obtain ⟨q, hq⟩ := ab_look_place hl hx
  exact lv_iinc (v := x + Int32.ofInt i) N.1 N.2.1 hd hl hq rfl (Nat.le_of_ble_eq_true hn) rfl (fun ls' hl' => kk p e s m args below meth c H locs ls' N tb w hS (ab_lo_f1 (.int (x + Int32.ofInt i)) hl'))
theorem ab_lc_eq {x y : Int64} {off : Int} (t pc1 pc' : Nat) (hd : decode κ.2.1.2.1 pc = .ok (.lcmp, 1)) (hd2 : decode κ.2.1.2.1 pc1 = .ok (.ifCond .eq off, 3)) (kt : x = y → ab_V κ ad t lo st h k n) (kf : ¬ x = y → ab_V κ ad pc' lo st h k n) (ht : (pc1 : Int) + off = (t : Int) := by rfl) (hp1 : pc + 1 = pc1 := by rfl) (hp : pc1 + 3 = pc' := by rfl) : ab_V κ ad pc lo (.long y :: .long x :: st) h k n := by
  subst hp
  subst hp1
  intro p e s m args below meth c H locs ls N tb w hS hl
  refine W.lcmp N.1 N.2.1 hd ?_
  exact lv_if_eq N.1 N.2.1 hd2 ht (fun z => kt ((lg_cmp_eq x y).mp z) p e s m args below meth c H locs ls N tb w hS hl) (fun z => kf (fun z2 => z ((lg_cmp_eq x y).mpr z2)) p e s m args below meth c H locs ls N tb w hS hl)
theorem ab_lc_ne {x y : Int64} {off : Int} (t pc1 pc' : Nat) (hd : decode κ.2.1.2.1 pc = .ok (.lcmp, 1)) (hd2 : decode κ.2.1.2.1 pc1 = .ok (.ifCond .ne off, 3)) (kt : ¬ x = y → ab_V κ ad t lo st h k n) (kf : x = y → ab_V κ ad pc' lo st h k n) (ht : (pc1 : Int) + off = (t : Int) := by rfl) (hp1 : pc + 1 = pc1 := by rfl) (hp : pc1 + 3 = pc' := by rfl) : ab_V κ ad pc lo (.long y :: .long x :: st) h k n := by
  subst hp
  subst hp1
  intro p e s m args below meth c H locs ls N tb w hS hl
  refine W.lcmp N.1 N.2.1 hd ?_
  exact lv_if_ne N.1 N.2.1 hd2 ht (fun z => kt (fun z2 => z ((lg_cmp_eq x y).mpr z2)) p e s m args below meth c H locs ls N tb w hS hl) (fun z => kf ((lg_cmp_eq x y).mp z) p e s m args below meth c H locs ls N tb w hS hl)
theorem ab_lc_lt {x y : Int64} {off : Int} (t pc1 pc' : Nat) (hd : decode κ.2.1.2.1 pc = .ok (.lcmp, 1)) (hd2 : decode κ.2.1.2.1 pc1 = .ok (.ifCond .lt off, 3)) (kt : x < y → ab_V κ ad t lo st h k n) (kf : ¬ x < y → ab_V κ ad pc' lo st h k n) (ht : (pc1 : Int) + off = (t : Int) := by rfl) (hp1 : pc + 1 = pc1 := by rfl) (hp : pc1 + 3 = pc' := by rfl) : ab_V κ ad pc lo (.long y :: .long x :: st) h k n := by
  subst hp
  subst hp1
  intro p e s m args below meth c H locs ls N tb w hS hl
  refine W.lcmp N.1 N.2.1 hd ?_
  exact lv_if_lt N.1 N.2.1 hd2 ht (fun z => kt ((lg_cmp_lt x y).mp z) p e s m args below meth c H locs ls N tb w hS hl) (fun z => kf (fun z2 => z ((lg_cmp_lt x y).mpr z2)) p e s m args below meth c H locs ls N tb w hS hl)
theorem ab_lc_ge {x y : Int64} {off : Int} (t pc1 pc' : Nat) (hd : decode κ.2.1.2.1 pc = .ok (.lcmp, 1)) (hd2 : decode κ.2.1.2.1 pc1 = .ok (.ifCond .ge off, 3)) (kt : y ≤ x → ab_V κ ad t lo st h k n) (kf : ¬ y ≤ x → ab_V κ ad pc' lo st h k n) (ht : (pc1 : Int) + off = (t : Int) := by rfl) (hp1 : pc + 1 = pc1 := by rfl) (hp : pc1 + 3 = pc' := by rfl) : ab_V κ ad pc lo (.long y :: .long x :: st) h k n := by
  subst hp
  subst hp1
  intro p e s m args below meth c H locs ls N tb w hS hl
  refine W.lcmp N.1 N.2.1 hd ?_
  exact lv_if_ge N.1 N.2.1 hd2 ht (fun z => kt ((lg_cmp_ge x y).mp z) p e s m args below meth c H locs ls N tb w hS hl) (fun z => kf (fun z2 => z ((lg_cmp_ge x y).mpr z2)) p e s m args below meth c H locs ls N tb w hS hl)
theorem ab_lc_gt {x y : Int64} {off : Int} (t pc1 pc' : Nat) (hd : decode κ.2.1.2.1 pc = .ok (.lcmp, 1)) (hd2 : decode κ.2.1.2.1 pc1 = .ok (.ifCond .gt off, 3)) (kt : y < x → ab_V κ ad t lo st h k n) (kf : ¬ y < x → ab_V κ ad pc' lo st h k n) (ht : (pc1 : Int) + off = (t : Int) := by rfl) (hp1 : pc + 1 = pc1 := by rfl) (hp : pc1 + 3 = pc' := by rfl) : ab_V κ ad pc lo (.long y :: .long x :: st) h k n := by
  subst hp
  subst hp1
  intro p e s m args below meth c H locs ls N tb w hS hl
  refine W.lcmp N.1 N.2.1 hd ?_
  exact lv_if_gt N.1 N.2.1 hd2 ht (fun z => kt ((lg_cmp_gt x y).mp z) p e s m args below meth c H locs ls N tb w hS hl) (fun z => kf (fun z2 => z ((lg_cmp_gt x y).mpr z2)) p e s m args below meth c H locs ls N tb w hS hl)
theorem ab_lc_le {x y : Int64} {off : Int} (t pc1 pc' : Nat) (hd : decode κ.2.1.2.1 pc = .ok (.lcmp, 1)) (hd2 : decode κ.2.1.2.1 pc1 = .ok (.ifCond .le off, 3)) (kt : x ≤ y → ab_V κ ad t lo st h k n) (kf : ¬ x ≤ y → ab_V κ ad pc' lo st h k n) (ht : (pc1 : Int) + off = (t : Int) := by rfl) (hp1 : pc + 1 = pc1 := by rfl) (hp : pc1 + 3 = pc' := by rfl) : ab_V κ ad pc lo (.long y :: .long x :: st) h k n := by
  subst hp
  subst hp1
  intro p e s m args below meth c H locs ls N tb w hS hl
  refine W.lcmp N.1 N.2.1 hd ?_
  exact lv_if_le N.1 N.2.1 hd2 ht (fun z => kt ((lg_cmp_le x y).mp z) p e s m args below meth c H locs ls N tb w hS hl) (fun z => kf (fun z2 => z ((lg_cmp_le x y).mpr z2)) p e s m args below meth c H locs ls N tb w hS hl)
theorem ab_ldc {v : Int32} (pc' : Nat) (hd : decode κ.2.1.2.1 pc = .ok (.ldc idx, 2)) (hc : Cond.constant κ.2.1.1.cls idx v ∈ ab_G) (kk : ab_V κ ad pc' lo (.int v :: st) h k n) (hp : pc + 2 = pc' := by rfl) : ab_V κ ad pc lo st h k n := by
  subst hp
  intro p e s m args below meth c H locs ls N tb w hS hl
  exact lv_ldc N.1 N.2.1 N.2.2.2.2.1 (N.2.2.2.2.2.1 _ hc) hd (kk p e s m args below meth c H locs ls N tb w hS hl)
theorem ab_ldc_w {v : Int32} (pc' : Nat) (hd : decode κ.2.1.2.1 pc = .ok (.ldc_w idx, 3)) (hc : Cond.constant κ.2.1.1.cls idx v ∈ ab_G) (kk : ab_V κ ad pc' lo (.int v :: st) h k n) (hp : pc + 3 = pc' := by rfl) : ab_V κ ad pc lo st h k n := by
  subst hp
  intro p e s m args below meth c H locs ls N tb w hS hl
  exact lv_ldcw N.1 N.2.1 N.2.2.2.2.1 (N.2.2.2.2.2.1 _ hc) hd (kk p e s m args below meth c H locs ls N tb w hS hl)
theorem ab_ldc2 {v : Int64} (pc' : Nat) (hd : decode κ.2.1.2.1 pc = .ok (.ldc2_w idx, 3)) (hc : Cond.constantLong κ.2.1.1.cls idx v ∈ ab_G) (kk : ab_V κ ad pc' lo (.long v :: st) h k n) (hp : pc + 3 = pc' := by rfl) : ab_V κ ad pc lo st h k n := by
  subst hp
  intro p e s m args below meth c H locs ls N tb w hS hl
  exact lv_ldc2 N.1 N.2.1 N.2.2.2.2.1 (N.2.2.2.2.2.1 _ hc) hd (kk p e s m args below meth c H locs ls N tb w hS hl)
theorem ab_zast {a N9 : Nat} {f : Nat → Int32} {i x : Int32} {h' : ab_H} (pc' : Nat) (hd : decode κ.2.1.2.1 pc = .ok (.bastore, 1)) (he : h[a]? = some (.inl (.boolean, N9, .inl f))) (hi : vp_in i N9) (hh : h.set a (.inl (.boolean, N9, .inl (upd f i.toNatClampNeg (vp_nar .boolean x)))) = h') (kk : ab_V κ ad pc' lo st h' k n) (hp : pc + 1 = pc' := by rfl) : ab_V κ ad pc lo (.int x :: .int i :: .ref a :: st) h k n := by
  subst hp
  subst hh
  intro p e s m args below meth c H locs ls N tb w hS hl
  exact va_zast N.1 N.2.1 (ab_W_K w he) w.1 w.2.1 hS a 0 (ab_w_get he) rfl hi hd (fun H1 locs1 hP hD hS1 => kk p e s m args below meth c H1 locs1 ls N tb (ab_W_set w he (fun ty y hy => by cases hy; exact w.2.2.2.1 _ _ (List.mem_of_getElem? he)) trivial hP hD) hS1 hl)
/-- a row of an array of arrays -/
theorem ab_aald {a N9 b : Nat} {ty : FieldType} {f : Nat → Option Nat} {i : Int32} (pc' : Nat) (hd : decode κ.2.1.2.1 pc = .ok (.aaload, 1)) (he : h[a]? = some (.inl (ty, N9, .inr (.inr (.inr (.inr f)))))) (hi : vp_in i N9) (hb : f i.toNatClampNeg = some b) (kk : ab_V κ ad pc' lo (.ref b :: st) h k n) (hr : ty.isReference = true := by rfl) (hp : pc + 1 = pc' := by rfl) : ab_V κ ad pc lo (.int i :: .ref a :: st) h k n := by
  subst hp
  intro p e s m args below meth c H locs ls N tb w hS hl
  have hlt : i.toNatClampNeg < N9 := Nat.not_le.mp fun q => hi (Or.inr q)
  have hP := w.1 a _ (ab_w_get he)
  refine W.aald (v := .ref (ad b)) (ty := ty) N.1 N.2.1 hP ((w.2.2.2.1 ty _ (List.mem_of_getElem? he)).1 N9 (fun j => va_rf ((f j).map ad))) hr (fun q => by cases q) (by show ¬ (i < 0 ∨ (arrV _ _ _).slots.size ≤ _); rw [arrV_size]; exact hi) ?_ rfl rfl hd (kk p e s m args below meth c H locs ls N tb w hS hl)
  show (arrV (ab_k s ty) N9 (fun j => va_rf ((f j).map ad))).slots[i.toNatClampNeg]? = some (.ref (ad b))
  rw [arrV_read _ _ hlt, hb]
  rfl
theorem ab_alen {a : Nat} {ty : FieldType} {x : vp_A} {v : Int32} (pc' : Nat) (hd : decode κ.2.1.2.1 pc = .ok (.arraylength, 1)) (he : h[a]? = some (.inl (ty, x))) (hv : Int32.ofNat x.1 = v) (kk : ab_V κ ad pc' lo (.int v :: st) h k n) (hp : pc + 1 = pc' := by rfl) : ab_V κ ad pc lo (.ref a :: st) h k n := by
  subst hp
  intro p e s m args below meth c H locs ls N tb w hS hl
  refine va_alen N.1 N.2.1 (ab_W_K w he) w.1 a 0 (ab_w_get he) rfl ?_ hd (kk p e s m args below meth c H locs ls N tb w hS hl)
  rw [← hv]
  obtain ⟨nx, f | f | f | f | f⟩ := x <;> rfl
theorem ab_pop {v : Value} (pc' : Nat) (hd : decode κ.2.1.2.1 pc = .ok (.pop, 1)) (kk : ab_V κ ad pc' lo st h k n) (hv : v.category = 1 := by rfl) (hp : pc + 1 = pc' := by rfl) : ab_V κ ad pc lo (v :: st) h k n := by
  subst hp
  intro p e s m args below meth c H locs ls N tb w hS hl
  exact lv_pop N.1 N.2.1 hd (by rw [ab_cat]; exact hv) (kk p e s m args below meth c H locs ls N tb w hS hl)
theorem ab_tabIn {x : Int32} {dflt lw hi : Int} {offs : Array Int} {len : Nat} {off : Int} (t : Nat) (hd : decode κ.2.1.2.1 pc = .ok (.tableswitch dflt lw hi offs, len)) (h1 : ¬ x.toInt < lw) (h2 : ¬ hi < x.toInt) (ho : offs[(x.toInt - lw).toNat]? = some off) (kk : ab_V κ ad t lo st h k n) (ht : (pc : Int) + off = (t : Int) := by rfl) : ab_V κ ad pc lo (.int x :: st) h k n := by
  intro p e s m args below meth c H locs ls N tb w hS hl
  exact lv_tableIn N.1 N.2.1 hd h1 h2 ho ht (kk p e s m args below meth c H locs ls N tb w hS hl)
theorem ab_tabOut {x : Int32} {dflt lw hi : Int} {offs : Array Int} {len : Nat} (t : Nat) (hd : decode κ.2.1.2.1 pc = .ok (.tableswitch dflt lw hi offs, len)) (h1 : x.toInt < lw ∨ hi < x.toInt) (kk : ab_V κ ad t lo st h k n) (ht : (pc : Int) + dflt = (t : Int) := by rfl) : ab_V κ ad pc lo (.int x :: st) h k n := by
  intro p e s m args below meth c H locs ls N tb w hS hl
  exact lv_tableOut N.1 N.2.1 hd h1 ht (kk p e s m args below meth c H locs ls N tb w hS hl)
end ABD
def ab_ce (own : String) (hs : List (Nat × Nat × Nat × Nat)) (i pc : Nat) (E : String) (hpc : Nat) : Prop := ∃ (s0 e0 ct : Nat) (nm : String), hs[i]? = some (s0, e0, hpc, ct) ∧ s0 ≤ pc ∧ pc < e0 ∧ ct ≠ 0 ∧ Cond.classLink own ct nm ∈ ab_G ∧ (E, nm) ∈ ab_Bc ∧ ∀ q ∈ hs.take i, q.2.2.2 ≠ 0 ∧ ∃ nm' : String, Cond.classLink own q.2.2.2 nm' ∈ ab_G ∧ (E, nm') ∈ ab_Bn
theorem ab_catch_n {l : Launch} {D : va_G} {B : Nat} {ad : Nat → Nat} {y : ab_Y} {rm : Room} {o : ab_O} {h h' : ab_H} {pc k n hpc : Nat} {lo : List (Nat × Value)} {st : List Value} {E : String} {hs : List (Nat × Nat × Nat × Nat)} {j : Fin 4} (i pc' : Nat) (lo' : List (Nat × Value)) (hhs : y.2.2.2.2 = some hs) (hev : ab_ce y.1.cls hs i pc E hpc) (hd : decode y.2.1 hpc = .ok (.astore_n j, 1)) (hlo : lo.filter (fun q => !(q.1 == (j : Nat)) && !(q.1 + 1 == (j : Nat) && q.2.category == 2)) = lo') (kk : ab_V (ab_km l D B ad y rm o h') ad pc' lo' [] h k n) (hj : Nat.blt (j : Nat) y.2.2.1 = true := by rfl) (hp : hpc + 1 = pc' := by rfl) : ab_VX (ab_km l D B ad y rm o h') ad pc lo st E h k n := by
  subst hp
  subst hlo
  obtain ⟨s0, e0, ct, nm, g1, g2, g3, g4, g5, g6, g7⟩ := hev
  intro p e s m args below meth c H locs ls q ce N tb w hS hl hce hcv hcl
  have tb2 : c.exceptionTable.toList.map (fun x => (x.startPc, x.endPc, x.handlerPc, x.catchType)) = y.2.2.2.2.getD [] := tb
  rw [hhs] at tb2
  have tb3 : c.exceptionTable.toList.map (fun x => (x.startPc, x.endPc, x.handlerPc, x.catchType)) = hs := tb2
  obtain ⟨x, hx, hfx⟩ : ∃ x, c.exceptionTable.toList[i]? = some x ∧ (x.startPc, x.endPc, x.handlerPc, x.catchType) = (s0, e0, hpc, ct) := by
    rw [← tb3, List.getElem?_map] at g1
    cases hx : c.exceptionTable.toList[i]? with
    | none => rw [hx] at g1; cases g1
    | some x => rw [hx] at g1; exact ⟨x, rfl, Option.some.inj g1⟩
  simp only [Prod.mk.injEq] at hfx
  obtain ⟨f1, f2, f3, f4⟩ := hfx
  obtain ⟨hi, hxi⟩ := List.getElem?_eq_some_iff.mp hx
  have hsplit : c.exceptionTable.toList = c.exceptionTable.toList.take i ++ x :: c.exceptionTable.toList.drop (i + 1) := by
    have h1 := List.take_append_drop i c.exceptionTable.toList
    rw [List.drop_eq_getElem_cons hi, hxi] at h1
    exact h1.symm
  obtain ⟨N1, N2, N3, N4, N5, N6, N7, N8, Nn, N9, X1, X2, X3, X4, X5, X6, X7⟩ := id N
  refine vx_catch (own := y.1.cls) (name := nm) (E := E) (ce := ce) N5 _ x _ hsplit ?_ ?_ ?_ (by rw [f4]; exact N6 _ g5) (va_any rfl (X4 _ g6)) hce hcv hcl ?_
  · intro z hz
    have hm : (z.startPc, z.endPc, z.handlerPc, z.catchType) ∈ hs.take i := by
      rw [← tb3, ← List.map_take]
      exact List.mem_map.mpr ⟨z, hz, rfl⟩
    obtain ⟨h1, nm', h2, h3⟩ := g7 _ hm
    exact Or.inr ⟨h1, nm', N6 _ h2, X5 _ h3⟩
  · simp only [covers, f1, f2]
    simp [g2, g3]
  · rw [f4]; exact g4
  · rw [f3]
    refine lv_astore_n N1 N2 hd rfl hl (Nat.le_of_ble_eq_true hj) rfl (fun ls' hl' => kk p e s m args below meth c H locs ls' N tb w hS ⟨hl'.1, hl'.2.1, fun z hz => hl'.2.2 z ?_⟩)
    rw [ab_lo_filter (fun a b => !(a == (j : Nat)) && !(a + 1 == (j : Nat) && b == 2))]
    exact List.mem_cons_of_mem _ hz
theorem ab_catch {l : Launch} {D : va_G} {B : Nat} {ad : Nat → Nat} {y : ab_Y} {rm : Room} {o : ab_O} {h h' : ab_H} {pc k n hpc : Nat} {lo : List (Nat × Value)} {st : List Value} {E : String} {hs : List (Nat × Nat × Nat × Nat)} {j : Nat} (i pc' : Nat) (lo' : List (Nat × Value)) (hhs : y.2.2.2.2 = some hs) (hev : ab_ce y.1.cls hs i pc E hpc) (hd : decode y.2.1 hpc = .ok (.astore j, 2)) (hlo : lo.filter (fun q => !(q.1 == j) && !(q.1 + 1 == j && q.2.category == 2)) = lo') (kk : ab_V (ab_km l D B ad y rm o h') ad pc' lo' [] h k n) (hj : Nat.blt j y.2.2.1 = true := by rfl) (hp : hpc + 2 = pc' := by rfl) : ab_VX (ab_km l D B ad y rm o h') ad pc lo st E h k n := by
  subst hp
  subst hlo
  obtain ⟨s0, e0, ct, nm, g1, g2, g3, g4, g5, g6, g7⟩ := hev
  intro p e s m args below meth c H locs ls q ce N tb w hS hl hce hcv hcl
  have tb2 : c.exceptionTable.toList.map (fun x => (x.startPc, x.endPc, x.handlerPc, x.catchType)) = y.2.2.2.2.getD [] := tb
  rw [hhs] at tb2
  have tb3 : c.exceptionTable.toList.map (fun x => (x.startPc, x.endPc, x.handlerPc, x.catchType)) = hs := tb2
  obtain ⟨x, hx, hfx⟩ : ∃ x, c.exceptionTable.toList[i]? = some x ∧ (x.startPc, x.endPc, x.handlerPc, x.catchType) = (s0, e0, hpc, ct) := by
    rw [← tb3, List.getElem?_map] at g1
    cases hx : c.exceptionTable.toList[i]? with
    | none => rw [hx] at g1; cases g1
    | some x => rw [hx] at g1; exact ⟨x, rfl, Option.some.inj g1⟩
  simp only [Prod.mk.injEq] at hfx
  obtain ⟨f1, f2, f3, f4⟩ := hfx
  obtain ⟨hi, hxi⟩ := List.getElem?_eq_some_iff.mp hx
  have hsplit : c.exceptionTable.toList = c.exceptionTable.toList.take i ++ x :: c.exceptionTable.toList.drop (i + 1) := by
    have h1 := List.take_append_drop i c.exceptionTable.toList
    rw [List.drop_eq_getElem_cons hi, hxi] at h1
    exact h1.symm
  obtain ⟨N1, N2, N3, N4, N5, N6, N7, N8, Nn, N9, X1, X2, X3, X4, X5, X6, X7⟩ := id N
  refine vx_catch (own := y.1.cls) (name := nm) (E := E) (ce := ce) N5 _ x _ hsplit ?_ ?_ ?_ (by rw [f4]; exact N6 _ g5) (va_any rfl (X4 _ g6)) hce hcv hcl ?_
  · intro z hz
    have hm : (z.startPc, z.endPc, z.handlerPc, z.catchType) ∈ hs.take i := by
      rw [← tb3, ← List.map_take]
      exact List.mem_map.mpr ⟨z, hz, rfl⟩
    obtain ⟨h1, nm', h2, h3⟩ := g7 _ hm
    exact Or.inr ⟨h1, nm', N6 _ h2, X5 _ h3⟩
  · simp only [covers, f1, f2]
    simp [g2, g3]
  · rw [f4]; exact g4
  · rw [f3]
    refine lv_astore N1 N2 hd hl (Nat.le_of_ble_eq_true hj) rfl (fun ls' hl' => kk p e s m args below meth c H locs ls' N tb w hS ⟨hl'.1, hl'.2.1, fun z hz => hl'.2.2 z ?_⟩)
    rw [ab_lo_filter (fun a b => !(a == j) && !(a + 1 == j && b == 2))]
    exact List.mem_cons_of_mem _ hz
