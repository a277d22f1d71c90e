/-! the law: its frame, its script, its end -/
def y_L_law : ab_Y0 := (⟨"HerdKinshipLaw", "law", "([I)Z"⟩, code, 8, some .boolean, none)
def gS (xs : Nat → Int32) (i : Int32) : Int32 := xs i.toNatClampNeg
def ab_TL (b L : Nat) (xs : Nat → Int32) (B : Nat) : State → Code → (Nat → Nat) → Prop := fun s _ ad => ad 999 = b ∧ va_X b L xs s s.heap ∧ b < s.heap.size ∧ s.heap.size = B
abbrev ab_kl (l : Launch) (D : va_G) (B b L : Nat) (xs : Nat → Int32) : ab_K := ((l, D, B), y_L_law, room_1, (fun below args s => fun t => args = #[Value.ref b] → lw_Z below args s t), ab_TL b L xs B)
theorem nbC {a : Nat} (h : a ≤ 601024) : Nat.ble a room_1.cells = true := Nat.ble_eq_true_of_le h
theorem nbS {a : Nat} (h : a ≤ 7293034) : Nat.ble a room_1.slots = true := Nat.ble_eq_true_of_le h
theorem ab_wide {κ : ab_K} {ad : Nat → Nat} {pc k n k' n' : Nat} {lo : List (Nat × Value)} {st : List Value} {h : ab_H} (h1 : k ≤ k') (h2 : n ≤ n') (kk : ab_V κ ad pc lo st h k' n') : ab_V κ ad pc lo st h k n := by
  intro p e s m args below meth c H locs ls N tb w hS hl
  exact W.widen h1 h2 (kk p e s m args below meth c H locs ls N tb w hS hl)
section LAWR
variable {l : Launch} {D : va_G} {B b L : Nat} {xs : Nat → Int32} {ad : Nat → Nat} {pc k n : Nat} {lo : List (Nat × Value)} {st : List Value} {h : ab_H}
theorem ab_sld {i : Int32} (pc' : Nat) (hd : decode code pc = .ok (.iaload, 1)) (hi : inb i L = true) (kk : ab_V (ab_kl l D B b L xs) ad pc' lo (.int (gS xs i) :: st) h k n) (hp : pc + 1 = pc' := by rfl) : ab_V (ab_kl l D B b L xs) ad pc lo (.int i :: .ref 999 :: st) h k n := by
  subst hp
  intro p e s m args below meth c H locs ls N tb w hS hl
  obtain ⟨t1, t2, t3, t4⟩ := id tb
  have h9 := va_sld (rest := st.map (ab_v ad)) N.1 N.2.1 t2 t3 (show ¬ ab_A B b from by show ¬ B ≤ b; omega) hS (inb_in hi) hd (kk p e s m args below meth c H locs ls N tb w hS hl)
  show W _ _ _ _ _ _ _ _ _ _ _ _ _ _ _ (F0 m pc ls (.int i :: .ref (ad 999) :: st.map (ab_v ad)))
  rw [t1]
  exact h9
theorem ab_slen (pc' : Nat) (hd : decode code pc = .ok (.arraylength, 1)) (kk : ab_V (ab_kl l D B b L xs) ad pc' lo (.int (Int32.ofNat L) :: st) h k n) (hp : pc + 1 = pc' := by rfl) : ab_V (ab_kl l D B b L xs) ad pc lo (.ref 999 :: st) h k n := by
  subst hp
  intro p e s m args below meth c H locs ls N tb w hS hl
  obtain ⟨t1, t2, t3, t4⟩ := id tb
  have h9 := va_slen (rest := st.map (ab_v ad)) N.1 N.2.1 t2 t3 (show ¬ ab_A B b from by show ¬ B ≤ b; omega) hS hd (kk p e s m args below meth c H locs ls N tb w hS hl)
  show W _ _ _ _ _ _ _ _ _ _ _ _ _ _ _ (F0 m pc ls (.ref (ad 999) :: st.map (ab_v ad)))
  rw [t1]
  exact h9
theorem ab_lawret (hd : decode code pc = .ok (.ireturn, 1)) (hk : k ≤ 601024) (hn : n ≤ 7293034) : ab_V (ab_kl l D B b L xs) ad pc lo [.int 1] h k n := by
  intro p e s m args below meth c H locs ls N tb w hS hl
  obtain ⟨t1, t2, t3, t4⟩ := id tb
  by_cases ha : args = #[Value.ref b]
  · subst ha
    have h9 := va_forget (fun q hq => by rw [t4]; exact hS.2.2 q hq) (W.widen hk hn (lw_ret (l := l) (e := e) (s := s) (m := m) (below := below) (b := b) (H := H) (ls := ls) N.1 N.2.1 N.2.2.1 N.2.2.2.2.2.2.1 hd))
    intro T hT X
    obtain ⟨t, a1, b1⟩ := h9 T hT X
    exact ⟨t, a1, fun _ => b1⟩
  · intro T hT X
    exact ⟨_, Steps.refl _, fun h9 => absurd h9 ha⟩
end LAWR
theorem ll_0 : Cond.methodLink "HerdKinshipLaw" 160 ⟨"HerdKinship", "planned", "()J"⟩ ∈ ab_G := ab_Gi 177 (by decide +kernel) (by decide +kernel)
theorem ll_1 : Cond.methodLink "HerdKinshipLaw" 163 ⟨"HerdKinshipModel", "planned", "()J"⟩ ∈ ab_G := ab_Gi 842 (by decide +kernel) (by decide +kernel)
theorem ll_2 : Cond.methodLink "HerdKinshipLaw" 157 ⟨"HerdKinshipLaw", "bull", "(LHerdKinship;I[J)I"⟩ ∈ ab_G := ab_Gi 621 (by decide +kernel) (by decide +kernel)
theorem ll_3 : Cond.methodLink "HerdKinshipLaw" 159 ⟨"HerdKinshipModel", "bull", "(I)I"⟩ ∈ ab_G := ab_Gi 838 (by decide +kernel) (by decide +kernel)
theorem ll_4 : Cond.methodLink "HerdKinshipLaw" 90 ⟨"HerdKinshipModel", "thrown", "()I"⟩ ∈ ab_G := ab_Gi 692 (by decide +kernel) (by decide +kernel)
theorem ll_5 : Cond.methodLink "HerdKinshipLaw" 153 ⟨"HerdKinshipLaw", "plan", "(LHerdKinship;IIJ[J)I"⟩ ∈ ab_G := ab_Gi 548 (by decide +kernel) (by decide +kernel)
theorem ll_6 : Cond.methodLink "HerdKinshipLaw" 156 ⟨"HerdKinshipModel", "plan", "(IIJ)J"⟩ ∈ ab_G := ab_Gi 818 (by decide +kernel) (by decide +kernel)
theorem ll_7 : Cond.methodLink "HerdKinshipLaw" 148 ⟨"HerdKinshipLaw", "bestBull", "(LHerdKinship;I[J)I"⟩ ∈ ab_G := ab_Gi 537 (by decide +kernel) (by decide +kernel)
theorem ll_8 : Cond.methodLink "HerdKinshipLaw" 150 ⟨"HerdKinshipModel", "bestBull", "(I)I"⟩ ∈ ab_G := ab_Gi 810 (by decide +kernel) (by decide +kernel)
theorem ll_9 : Cond.methodLink "HerdKinshipLaw" 145 ⟨"HerdKinshipLaw", "closest", "(LHerdKinship;I[J)I"⟩ ∈ ab_G := ab_Gi 530 (by decide +kernel) (by decide +kernel)
theorem ll_10 : Cond.methodLink "HerdKinshipLaw" 147 ⟨"HerdKinshipModel", "closest", "(I)I"⟩ ∈ ab_G := ab_Gi 806 (by decide +kernel) (by decide +kernel)
theorem ll_11 : Cond.methodLink "HerdKinshipLaw" 142 ⟨"HerdKinshipLaw", "nearest", "(LHerdKinship;II[J)I"⟩ ∈ ab_G := ab_Gi 519 (by decide +kernel) (by decide +kernel)
theorem ll_12 : Cond.methodLink "HerdKinshipLaw" 144 ⟨"HerdKinshipModel", "nearest", "(II)I"⟩ ∈ ab_G := ab_Gi 802 (by decide +kernel) (by decide +kernel)
theorem ll_13 : Cond.methodLink "HerdKinshipLaw" 139 ⟨"HerdKinshipLaw", "lines", "(LHerdKinship;II[J)I"⟩ ∈ ab_G := ab_Gi 504 (by decide +kernel) (by decide +kernel)
theorem ll_14 : Cond.methodLink "HerdKinshipLaw" 141 ⟨"HerdKinshipModel", "lines", "(II)I"⟩ ∈ ab_G := ab_Gi 798 (by decide +kernel) (by decide +kernel)
theorem ll_15 : Cond.methodLink "HerdKinshipLaw" 136 ⟨"HerdKinshipLaw", "descendants", "(LHerdKinship;I[J)I"⟩ ∈ ab_G := ab_Gi 493 (by decide +kernel) (by decide +kernel)
theorem ll_16 : Cond.methodLink "HerdKinshipLaw" 138 ⟨"HerdKinshipModel", "descendants", "(I)I"⟩ ∈ ab_G := ab_Gi 794 (by decide +kernel) (by decide +kernel)
theorem ll_17 : Cond.methodLink "HerdKinshipLaw" 133 ⟨"HerdKinshipLaw", "ancestors", "(LHerdKinship;I[J)I"⟩ ∈ ab_G := ab_Gi 482 (by decide +kernel) (by decide +kernel)
theorem ll_18 : Cond.methodLink "HerdKinshipLaw" 135 ⟨"HerdKinshipModel", "ancestors", "(I)I"⟩ ∈ ab_G := ab_Gi 782 (by decide +kernel) (by decide +kernel)
theorem ll_19 : Cond.methodLink "HerdKinshipLaw" 128 ⟨"HerdKinship", "herd", "()J"⟩ ∈ ab_G := ab_Gi 165 (by decide +kernel) (by decide +kernel)
theorem ll_20 : Cond.methodLink "HerdKinshipLaw" 132 ⟨"HerdKinshipModel", "herd", "()J"⟩ ∈ ab_G := ab_Gi 778 (by decide +kernel) (by decide +kernel)
theorem ll_21 : Cond.methodLink "HerdKinshipLaw" 125 ⟨"HerdKinshipLaw", "inHerd", "(LHerdKinship;I[J)I"⟩ ∈ ab_G := ab_Gi 475 (by decide +kernel) (by decide +kernel)
theorem ll_22 : Cond.methodLink "HerdKinshipLaw" 127 ⟨"HerdKinshipModel", "inHerd", "(I)J"⟩ ∈ ab_G := ab_Gi 774 (by decide +kernel) (by decide +kernel)
theorem ll_23 : Cond.methodLink "HerdKinshipLaw" 122 ⟨"HerdKinshipLaw", "unknown", "(LHerdKinship;I[J)I"⟩ ∈ ab_G := ab_Gi 463 (by decide +kernel) (by decide +kernel)
theorem ll_24 : Cond.methodLink "HerdKinshipLaw" 124 ⟨"HerdKinshipModel", "unknown", "(I)J"⟩ ∈ ab_G := ab_Gi 770 (by decide +kernel) (by decide +kernel)
theorem ll_25 : Cond.methodLink "HerdKinshipLaw" 119 ⟨"HerdKinshipLaw", "share", "(LHerdKinship;II[J)I"⟩ ∈ ab_G := ab_Gi 442 (by decide +kernel) (by decide +kernel)
theorem ll_26 : Cond.methodLink "HerdKinshipLaw" 121 ⟨"HerdKinshipModel", "share", "(II)J"⟩ ∈ ab_G := ab_Gi 758 (by decide +kernel) (by decide +kernel)
theorem ll_27 : Cond.methodLink "HerdKinshipLaw" 116 ⟨"HerdKinshipLaw", "calf", "(LHerdKinship;II[J)I"⟩ ∈ ab_G := ab_Gi 435 (by decide +kernel) (by decide +kernel)
theorem ll_28 : Cond.methodLink "HerdKinshipLaw" 118 ⟨"HerdKinshipModel", "calf", "(II)J"⟩ ∈ ab_G := ab_Gi 754 (by decide +kernel) (by decide +kernel)
theorem ll_29 : Cond.methodLink "HerdKinshipLaw" 113 ⟨"HerdKinshipLaw", "inbreeding", "(LHerdKinship;I[J)I"⟩ ∈ ab_G := ab_Gi 424 (by decide +kernel) (by decide +kernel)
theorem ll_30 : Cond.methodLink "HerdKinshipLaw" 115 ⟨"HerdKinshipModel", "inbreeding", "(I)J"⟩ ∈ ab_G := ab_Gi 750 (by decide +kernel) (by decide +kernel)
theorem ll_31 : Cond.methodLink "HerdKinshipLaw" 110 ⟨"HerdKinshipLaw", "kinship", "(LHerdKinship;II[J)I"⟩ ∈ ab_G := ab_Gi 417 (by decide +kernel) (by decide +kernel)
theorem ll_32 : Cond.methodLink "HerdKinshipLaw" 112 ⟨"HerdKinshipModel", "kinship", "(II)J"⟩ ∈ ab_G := ab_Gi 746 (by decide +kernel) (by decide +kernel)
theorem ll_33 : Cond.methodLink "HerdKinshipLaw" 106 ⟨"HerdKinship", "animals", "()I"⟩ ∈ ab_G := ab_Gi 157 (by decide +kernel) (by decide +kernel)
theorem ll_34 : Cond.methodLink "HerdKinshipLaw" 109 ⟨"HerdKinshipModel", "animals", "()I"⟩ ∈ ab_G := ab_Gi 742 (by decide +kernel) (by decide +kernel)
theorem ll_35 : Cond.methodLink "HerdKinshipLaw" 102 ⟨"HerdKinshipLaw", "of", "(LHerdKinship;II[J)I"⟩ ∈ ab_G := ab_Gi 381 (by decide +kernel) (by decide +kernel)
theorem ll_36 : Cond.methodLink "HerdKinshipLaw" 105 ⟨"HerdKinshipModel", "of", "(II)I"⟩ ∈ ab_G := ab_Gi 734 (by decide +kernel) (by decide +kernel)
theorem ll_37 : Cond.methodLink "HerdKinshipLaw" 98 ⟨"HerdKinshipLaw", "cull", "(LHerdKinship;I[J)I"⟩ ∈ ab_G := ab_Gi 369 (by decide +kernel) (by decide +kernel)
theorem ll_38 : Cond.methodLink "HerdKinshipLaw" 101 ⟨"HerdKinshipModel", "cull", "(I)I"⟩ ∈ ab_G := ab_Gi 730 (by decide +kernel) (by decide +kernel)
theorem ll_39 : Cond.methodLink "HerdKinshipLaw" 94 ⟨"HerdKinshipLaw", "correct", "(LHerdKinship;III[J)I"⟩ ∈ ab_G := ab_Gi 357 (by decide +kernel) (by decide +kernel)
theorem ll_40 : Cond.methodLink "HerdKinshipLaw" 97 ⟨"HerdKinshipModel", "correct", "(III)I"⟩ ∈ ab_G := ab_Gi 726 (by decide +kernel) (by decide +kernel)
theorem ll_41 : Cond.methodLink "HerdKinshipLaw" 84 ⟨"HerdKinshipLaw", "enter", "(LHerdKinship;IIII[J)I"⟩ ∈ ab_G := ab_Gi 182 (by decide +kernel) (by decide +kernel)
theorem ll_42 : Cond.methodLink "HerdKinshipLaw" 89 ⟨"HerdKinshipModel", "enter", "(IIII)I"⟩ ∈ ab_G := ab_Gi 696 (by decide +kernel) (by decide +kernel)
theorem lww_0 : Cond.constantLong "HerdKinshipLaw" 151 (4294967295 : Int64) ∈ ab_G := ab_Gi 846 (by decide +kernel) (by decide +kernel)
def L_law_c1352 (xs : Nat → Int32) (L : Nat) (rec23 : Int32 → Me → Option (Int32 × Me)) (v4 : Int32) (M : Me) : Option (Int32 × Me) :=
  Option.bind (H_planned M) (fun r2 => Option.bind (M_planned M) (fun r4 => if r2 = r4.1 then (rec23 (v4 + (5 : Int32)) r4.2) else (some ((0 : Int32), r4.2))))
def L_law_c1296 (xs : Nat → Int32) (L : Nat) (rec23 : Int32 → Me → Option (Int32 × Me)) (v4 : Int32) (M : Me) : Option (Int32 × Me) :=
  gd (inb (v4 + (1 : Int32)) L) (Option.bind (L_bull M (gS xs (v4 + (1 : Int32)))) (fun r3 => gd (inb (v4 + (1 : Int32)) L) (Option.bind (M_bull r3.2 (gS xs (v4 + (1 : Int32)))) (fun r6 => Option.bind (M_thrown r6.2) (fun r8 => if r8 = r3.1 then (if r3.1 = (0 : Int32) then (gd (inb (0 : Int32) 1) (if (gL r6.2 7 (0 : Int32)) = r6.1.toInt64 then (rec23 (v4 + (5 : Int32)) r6.2) else (some ((0 : Int32), r6.2)))) else (rec23 (v4 + (5 : Int32)) r6.2)) else (some ((0 : Int32), r6.2)))))))
def L_law_c1185 (xs : Nat → Int32) (L : Nat) (rec23 : Int32 → Me → Option (Int32 × Me)) (v4 : Int32) (M : Me) : Option (Int32 × Me) :=
  gd (inb (v4 + (1 : Int32)) L) (gd (inb (v4 + (2 : Int32)) L) (gd (inb (v4 + (3 : Int32)) L) (gd (inb (v4 + (4 : Int32)) L) (Option.bind (L_plan M (gS xs (v4 + (1 : Int32))) (gS xs (v4 + (2 : Int32))) ((((gS xs (v4 + (3 : Int32))).toInt64) <<< ((32 : Int32).toInt64 &&& 63)) ||| (((gS xs (v4 + (4 : Int32))).toInt64) &&& (4294967295 : Int64)))) (fun r6 => gd (inb (v4 + (1 : Int32)) L) (gd (inb (v4 + (2 : Int32)) L) (gd (inb (v4 + (3 : Int32)) L) (gd (inb (v4 + (4 : Int32)) L) (Option.bind (M_plan r6.2 (gS xs (v4 + (1 : Int32))) (gS xs (v4 + (2 : Int32))) ((((gS xs (v4 + (3 : Int32))).toInt64) <<< ((32 : Int32).toInt64 &&& 63)) ||| (((gS xs (v4 + (4 : Int32))).toInt64) &&& (4294967295 : Int64)))) (fun r12 => Option.bind (M_thrown r12.2) (fun r14 => if r14 = r6.1 then (if r6.1 = (0 : Int32) then (gd (inb (0 : Int32) 1) (if (gL r12.2 7 (0 : Int32)) = r12.1 then (rec23 (v4 + (5 : Int32)) r12.2) else (some ((0 : Int32), r12.2)))) else (rec23 (v4 + (5 : Int32)) r12.2)) else (some ((0 : Int32), r12.2)))))))))))))
def L_law_c1129 (xs : Nat → Int32) (L : Nat) (rec23 : Int32 → Me → Option (Int32 × Me)) (v4 : Int32) (M : Me) : Option (Int32 × Me) :=
  gd (inb (v4 + (1 : Int32)) L) (Option.bind (L_bestBull M (gS xs (v4 + (1 : Int32)))) (fun r3 => gd (inb (v4 + (1 : Int32)) L) (Option.bind (M_bestBull r3.2 (gS xs (v4 + (1 : Int32)))) (fun r6 => Option.bind (M_thrown r6.2) (fun r8 => if r8 = r3.1 then (if r3.1 = (0 : Int32) then (gd (inb (0 : Int32) 1) (if (gL r6.2 7 (0 : Int32)) = r6.1.toInt64 then (rec23 (v4 + (5 : Int32)) r6.2) else (some ((0 : Int32), r6.2)))) else (rec23 (v4 + (5 : Int32)) r6.2)) else (some ((0 : Int32), r6.2)))))))
def L_law_c1073 (xs : Nat → Int32) (L : Nat) (rec23 : Int32 → Me → Option (Int32 × Me)) (v4 : Int32) (M : Me) : Option (Int32 × Me) :=
  gd (inb (v4 + (1 : Int32)) L) (Option.bind (L_closest M (gS xs (v4 + (1 : Int32)))) (fun r3 => gd (inb (v4 + (1 : Int32)) L) (Option.bind (M_closest r3.2 (gS xs (v4 + (1 : Int32)))) (fun r6 => Option.bind (M_thrown r6.2) (fun r8 => if r8 = r3.1 then (if r3.1 = (0 : Int32) then (gd (inb (0 : Int32) 1) (if (gL r6.2 7 (0 : Int32)) = r6.1.toInt64 then (rec23 (v4 + (5 : Int32)) r6.2) else (some ((0 : Int32), r6.2)))) else (rec23 (v4 + (5 : Int32)) r6.2)) else (some ((0 : Int32), r6.2)))))))
def L_law_c1005 (xs : Nat → Int32) (L : Nat) (rec23 : Int32 → Me → Option (Int32 × Me)) (v4 : Int32) (M : Me) : Option (Int32 × Me) :=
  gd (inb (v4 + (1 : Int32)) L) (gd (inb (v4 + (2 : Int32)) L) (Option.bind (L_nearest M (gS xs (v4 + (1 : Int32))) (gS xs (v4 + (2 : Int32)))) (fun r4 => gd (inb (v4 + (1 : Int32)) L) (gd (inb (v4 + (2 : Int32)) L) (Option.bind (M_nearest r4.2 (gS xs (v4 + (1 : Int32))) (gS xs (v4 + (2 : Int32)))) (fun r8 => Option.bind (M_thrown r8.2) (fun r10 => if r10 = r4.1 then (if r4.1 = (0 : Int32) then (gd (inb (0 : Int32) 1) (if (gL r8.2 7 (0 : Int32)) = r8.1.toInt64 then (rec23 (v4 + (5 : Int32)) r8.2) else (some ((0 : Int32), r8.2)))) else (rec23 (v4 + (5 : Int32)) r8.2)) else (some ((0 : Int32), r8.2)))))))))
def L_law_c937 (xs : Nat → Int32) (L : Nat) (rec23 : Int32 → Me → Option (Int32 × Me)) (v4 : Int32) (M : Me) : Option (Int32 × Me) :=
  gd (inb (v4 + (1 : Int32)) L) (gd (inb (v4 + (2 : Int32)) L) (Option.bind (L_lines M (gS xs (v4 + (1 : Int32))) (gS xs (v4 + (2 : Int32)))) (fun r4 => gd (inb (v4 + (1 : Int32)) L) (gd (inb (v4 + (2 : Int32)) L) (Option.bind (M_lines r4.2 (gS xs (v4 + (1 : Int32))) (gS xs (v4 + (2 : Int32)))) (fun r8 => Option.bind (M_thrown r8.2) (fun r10 => if r10 = r4.1 then (if r4.1 = (0 : Int32) then (gd (inb (0 : Int32) 1) (if (gL r8.2 7 (0 : Int32)) = r8.1.toInt64 then (rec23 (v4 + (5 : Int32)) r8.2) else (some ((0 : Int32), r8.2)))) else (rec23 (v4 + (5 : Int32)) r8.2)) else (some ((0 : Int32), r8.2)))))))))
def L_law_c881 (xs : Nat → Int32) (L : Nat) (rec23 : Int32 → Me → Option (Int32 × Me)) (v4 : Int32) (M : Me) : Option (Int32 × Me) :=
  gd (inb (v4 + (1 : Int32)) L) (Option.bind (L_descendants M (gS xs (v4 + (1 : Int32)))) (fun r3 => gd (inb (v4 + (1 : Int32)) L) (Option.bind (M_descendants r3.2 (gS xs (v4 + (1 : Int32)))) (fun r6 => Option.bind (M_thrown r6.2) (fun r8 => if r8 = r3.1 then (if r3.1 = (0 : Int32) then (gd (inb (0 : Int32) 1) (if (gL r6.2 7 (0 : Int32)) = r6.1.toInt64 then (rec23 (v4 + (5 : Int32)) r6.2) else (some ((0 : Int32), r6.2)))) else (rec23 (v4 + (5 : Int32)) r6.2)) else (some ((0 : Int32), r6.2)))))))
def L_law_c825 (xs : Nat → Int32) (L : Nat) (rec23 : Int32 → Me → Option (Int32 × Me)) (v4 : Int32) (M : Me) : Option (Int32 × Me) :=
  gd (inb (v4 + (1 : Int32)) L) (Option.bind (L_ancestors M (gS xs (v4 + (1 : Int32)))) (fun r3 => gd (inb (v4 + (1 : Int32)) L) (Option.bind (M_ancestors r3.2 (gS xs (v4 + (1 : Int32)))) (fun r6 => Option.bind (M_thrown r6.2) (fun r8 => if r8 = r3.1 then (if r3.1 = (0 : Int32) then (gd (inb (0 : Int32) 1) (if (gL r6.2 7 (0 : Int32)) = r6.1.toInt64 then (rec23 (v4 + (5 : Int32)) r6.2) else (some ((0 : Int32), r6.2)))) else (rec23 (v4 + (5 : Int32)) r6.2)) else (some ((0 : Int32), r6.2)))))))
def L_law_c811 (xs : Nat → Int32) (L : Nat) (rec23 : Int32 → Me → Option (Int32 × Me)) (v4 : Int32) (M : Me) : Option (Int32 × Me) :=
  Option.bind (H_herd M) (fun r2 => Option.bind (M_herd M) (fun r4 => if r2 = r4.1 then (rec23 (v4 + (5 : Int32)) r4.2) else (some ((0 : Int32), r4.2))))
def L_law_c756 (xs : Nat → Int32) (L : Nat) (rec23 : Int32 → Me → Option (Int32 × Me)) (v4 : Int32) (M : Me) : Option (Int32 × Me) :=
  gd (inb (v4 + (1 : Int32)) L) (Option.bind (L_inHerd M (gS xs (v4 + (1 : Int32)))) (fun r3 => gd (inb (v4 + (1 : Int32)) L) (Option.bind (M_inHerd r3.2 (gS xs (v4 + (1 : Int32)))) (fun r6 => Option.bind (M_thrown r6.2) (fun r8 => if r8 = r3.1 then (if r3.1 = (0 : Int32) then (gd (inb (0 : Int32) 1) (if (gL r6.2 7 (0 : Int32)) = r6.1 then (rec23 (v4 + (5 : Int32)) r6.2) else (some ((0 : Int32), r6.2)))) else (rec23 (v4 + (5 : Int32)) r6.2)) else (some ((0 : Int32), r6.2)))))))
def L_law_c701 (xs : Nat → Int32) (L : Nat) (rec23 : Int32 → Me → Option (Int32 × Me)) (v4 : Int32) (M : Me) : Option (Int32 × Me) :=
  gd (inb (v4 + (1 : Int32)) L) (Option.bind (L_unknown M (gS xs (v4 + (1 : Int32)))) (fun r3 => gd (inb (v4 + (1 : Int32)) L) (Option.bind (M_unknown r3.2 (gS xs (v4 + (1 : Int32)))) (fun r6 => Option.bind (M_thrown r6.2) (fun r8 => if r8 = r3.1 then (if r3.1 = (0 : Int32) then (gd (inb (0 : Int32) 1) (if (gL r6.2 7 (0 : Int32)) = r6.1 then (rec23 (v4 + (5 : Int32)) r6.2) else (some ((0 : Int32), r6.2)))) else (rec23 (v4 + (5 : Int32)) r6.2)) else (some ((0 : Int32), r6.2)))))))
def L_law_c634 (xs : Nat → Int32) (L : Nat) (rec23 : Int32 → Me → Option (Int32 × Me)) (v4 : Int32) (M : Me) : Option (Int32 × Me) :=
  gd (inb (v4 + (1 : Int32)) L) (gd (inb (v4 + (2 : Int32)) L) (Option.bind (L_share M (gS xs (v4 + (1 : Int32))) (gS xs (v4 + (2 : Int32)))) (fun r4 => gd (inb (v4 + (1 : Int32)) L) (gd (inb (v4 + (2 : Int32)) L) (Option.bind (M_share r4.2 (gS xs (v4 + (1 : Int32))) (gS xs (v4 + (2 : Int32)))) (fun r8 => Option.bind (M_thrown r8.2) (fun r10 => if r10 = r4.1 then (if r4.1 = (0 : Int32) then (gd (inb (0 : Int32) 1) (if (gL r8.2 7 (0 : Int32)) = r8.1 then (rec23 (v4 + (5 : Int32)) r8.2) else (some ((0 : Int32), r8.2)))) else (rec23 (v4 + (5 : Int32)) r8.2)) else (some ((0 : Int32), r8.2)))))))))
def L_law_c567 (xs : Nat → Int32) (L : Nat) (rec23 : Int32 → Me → Option (Int32 × Me)) (v4 : Int32) (M : Me) : Option (Int32 × Me) :=
  gd (inb (v4 + (1 : Int32)) L) (gd (inb (v4 + (2 : Int32)) L) (Option.bind (L_calf M (gS xs (v4 + (1 : Int32))) (gS xs (v4 + (2 : Int32)))) (fun r4 => gd (inb (v4 + (1 : Int32)) L) (gd (inb (v4 + (2 : Int32)) L) (Option.bind (M_calf r4.2 (gS xs (v4 + (1 : Int32))) (gS xs (v4 + (2 : Int32)))) (fun r8 => Option.bind (M_thrown r8.2) (fun r10 => if r10 = r4.1 then (if r4.1 = (0 : Int32) then (gd (inb (0 : Int32) 1) (if (gL r8.2 7 (0 : Int32)) = r8.1 then (rec23 (v4 + (5 : Int32)) r8.2) else (some ((0 : Int32), r8.2)))) else (rec23 (v4 + (5 : Int32)) r8.2)) else (some ((0 : Int32), r8.2)))))))))
def L_law_c512 (xs : Nat → Int32) (L : Nat) (rec23 : Int32 → Me → Option (Int32 × Me)) (v4 : Int32) (M : Me) : Option (Int32 × Me) :=
  gd (inb (v4 + (1 : Int32)) L) (Option.bind (L_inbreeding M (gS xs (v4 + (1 : Int32)))) (fun r3 => gd (inb (v4 + (1 : Int32)) L) (Option.bind (M_inbreeding r3.2 (gS xs (v4 + (1 : Int32)))) (fun r6 => Option.bind (M_thrown r6.2) (fun r8 => if r8 = r3.1 then (if r3.1 = (0 : Int32) then (gd (inb (0 : Int32) 1) (if (gL r6.2 7 (0 : Int32)) = r6.1 then (rec23 (v4 + (5 : Int32)) r6.2) else (some ((0 : Int32), r6.2)))) else (rec23 (v4 + (5 : Int32)) r6.2)) else (some ((0 : Int32), r6.2)))))))
def L_law_c445 (xs : Nat → Int32) (L : Nat) (rec23 : Int32 → Me → Option (Int32 × Me)) (v4 : Int32) (M : Me) : Option (Int32 × Me) :=
  gd (inb (v4 + (1 : Int32)) L) (gd (inb (v4 + (2 : Int32)) L) (Option.bind (L_kinship M (gS xs (v4 + (1 : Int32))) (gS xs (v4 + (2 : Int32)))) (fun r4 => gd (inb (v4 + (1 : Int32)) L) (gd (inb (v4 + (2 : Int32)) L) (Option.bind (M_kinship r4.2 (gS xs (v4 + (1 : Int32))) (gS xs (v4 + (2 : Int32)))) (fun r8 => Option.bind (M_thrown r8.2) (fun r10 => if r10 = r4.1 then (if r4.1 = (0 : Int32) then (gd (inb (0 : Int32) 1) (if (gL r8.2 7 (0 : Int32)) = r8.1 then (rec23 (v4 + (5 : Int32)) r8.2) else (some ((0 : Int32), r8.2)))) else (rec23 (v4 + (5 : Int32)) r8.2)) else (some ((0 : Int32), r8.2)))))))))
def L_law_c432 (xs : Nat → Int32) (L : Nat) (rec23 : Int32 → Me → Option (Int32 × Me)) (v4 : Int32) (M : Me) : Option (Int32 × Me) :=
  Option.bind (H_animals M) (fun r2 => Option.bind (M_animals M) (fun r4 => if r2 = r4.1 then (rec23 (v4 + (5 : Int32)) r4.2) else (some ((0 : Int32), r4.2))))
def L_law_c364 (xs : Nat → Int32) (L : Nat) (rec23 : Int32 → Me → Option (Int32 × Me)) (v4 : Int32) (M : Me) : Option (Int32 × Me) :=
  gd (inb (v4 + (1 : Int32)) L) (gd (inb (v4 + (2 : Int32)) L) (Option.bind (L_of M (gS xs (v4 + (1 : Int32))) (gS xs (v4 + (2 : Int32)))) (fun r4 => gd (inb (v4 + (1 : Int32)) L) (gd (inb (v4 + (2 : Int32)) L) (Option.bind (M_of r4.2 (gS xs (v4 + (1 : Int32))) (gS xs (v4 + (2 : Int32)))) (fun r8 => Option.bind (M_thrown r8.2) (fun r10 => if r10 = r4.1 then (if r4.1 = (0 : Int32) then (gd (inb (0 : Int32) 1) (if (gL r8.2 7 (0 : Int32)) = r8.1.toInt64 then (rec23 (v4 + (5 : Int32)) r8.2) else (some ((0 : Int32), r8.2)))) else (rec23 (v4 + (5 : Int32)) r8.2)) else (some ((0 : Int32), r8.2)))))))))
def L_law_c308 (xs : Nat → Int32) (L : Nat) (rec23 : Int32 → Me → Option (Int32 × Me)) (v4 : Int32) (M : Me) : Option (Int32 × Me) :=
  gd (inb (v4 + (1 : Int32)) L) (Option.bind (L_cull M (gS xs (v4 + (1 : Int32)))) (fun r3 => gd (inb (v4 + (1 : Int32)) L) (Option.bind (M_cull r3.2 (gS xs (v4 + (1 : Int32)))) (fun r6 => Option.bind (M_thrown r6.2) (fun r8 => if r8 = r3.1 then (if r3.1 = (0 : Int32) then (gd (inb (0 : Int32) 1) (if (gL r6.2 7 (0 : Int32)) = r6.1.toInt64 then (rec23 (v4 + (5 : Int32)) r6.2) else (some ((0 : Int32), r6.2)))) else (rec23 (v4 + (5 : Int32)) r6.2)) else (some ((0 : Int32), r6.2)))))))
def L_law_c228 (xs : Nat → Int32) (L : Nat) (rec23 : Int32 → Me → Option (Int32 × Me)) (v4 : Int32) (M : Me) : Option (Int32 × Me) :=
  gd (inb (v4 + (1 : Int32)) L) (gd (inb (v4 + (2 : Int32)) L) (gd (inb (v4 + (3 : Int32)) L) (Option.bind (L_correct M (gS xs (v4 + (1 : Int32))) (gS xs (v4 + (2 : Int32))) (gS xs (v4 + (3 : Int32)))) (fun r5 => gd (inb (v4 + (1 : Int32)) L) (gd (inb (v4 + (2 : Int32)) L) (gd (inb (v4 + (3 : Int32)) L) (Option.bind (M_correct r5.2 (gS xs (v4 + (1 : Int32))) (gS xs (v4 + (2 : Int32))) (gS xs (v4 + (3 : Int32)))) (fun r10 => Option.bind (M_thrown r10.2) (fun r12 => if r12 = r5.1 then (if r5.1 = (0 : Int32) then (gd (inb (0 : Int32) 1) (if (gL r10.2 7 (0 : Int32)) = r10.1.toInt64 then (rec23 (v4 + (5 : Int32)) r10.2) else (some ((0 : Int32), r10.2)))) else (rec23 (v4 + (5 : Int32)) r10.2)) else (some ((0 : Int32), r10.2)))))))))))
def L_law_c136 (xs : Nat → Int32) (L : Nat) (rec23 : Int32 → Me → Option (Int32 × Me)) (v4 : Int32) (M : Me) : Option (Int32 × Me) :=
  gd (inb (v4 + (1 : Int32)) L) (gd (inb (v4 + (2 : Int32)) L) (gd (inb (v4 + (3 : Int32)) L) (gd (inb (v4 + (4 : Int32)) L) (Option.bind (L_enter M (gS xs (v4 + (1 : Int32))) (gS xs (v4 + (2 : Int32))) (gS xs (v4 + (3 : Int32))) (gS xs (v4 + (4 : Int32)))) (fun r6 => gd (inb (v4 + (1 : Int32)) L) (gd (inb (v4 + (2 : Int32)) L) (gd (inb (v4 + (3 : Int32)) L) (gd (inb (v4 + (4 : Int32)) L) (Option.bind (M_enter r6.2 (gS xs (v4 + (1 : Int32))) (gS xs (v4 + (2 : Int32))) (gS xs (v4 + (3 : Int32))) (gS xs (v4 + (4 : Int32)))) (fun r12 => Option.bind (M_thrown r12.2) (fun r14 => if r14 = r6.1 then (if r6.1 = (0 : Int32) then (gd (inb (0 : Int32) 1) (if (gL r12.2 7 (0 : Int32)) = r12.1.toInt64 then (rec23 (v4 + (5 : Int32)) r12.2) else (some ((0 : Int32), r12.2)))) else (rec23 (v4 + (5 : Int32)) r12.2)) else (some ((0 : Int32), r12.2)))))))))))))
def L_law_b23 (xs : Nat → Int32) (L : Nat) (rec23 : Int32 → Me → Option (Int32 × Me)) (v4 : Int32) (M : Me) : Option (Int32 × Me) :=
  if ((Int32.ofNat L) - (5 : Int32)) < v4 then (some ((1 : Int32), M)) else (gd (inb v4 L) (if ((gS xs v4) &&& (31 : Int32)) = (0 : Int32) then (L_law_c136 xs L rec23 v4 M) else (if ((gS xs v4) &&& (31 : Int32)) = (1 : Int32) then (L_law_c228 xs L rec23 v4 M) else (if ((gS xs v4) &&& (31 : Int32)) = (2 : Int32) then (L_law_c308 xs L rec23 v4 M) else (if ((gS xs v4) &&& (31 : Int32)) = (3 : Int32) then (L_law_c364 xs L rec23 v4 M) else (if ((gS xs v4) &&& (31 : Int32)) = (4 : Int32) then (L_law_c432 xs L rec23 v4 M) else (if ((gS xs v4) &&& (31 : Int32)) = (5 : Int32) then (L_law_c445 xs L rec23 v4 M) else (if ((gS xs v4) &&& (31 : Int32)) = (6 : Int32) then (L_law_c512 xs L rec23 v4 M) else (if ((gS xs v4) &&& (31 : Int32)) = (7 : Int32) then (L_law_c567 xs L rec23 v4 M) else (if ((gS xs v4) &&& (31 : Int32)) = (8 : Int32) then (L_law_c634 xs L rec23 v4 M) else (if ((gS xs v4) &&& (31 : Int32)) = (9 : Int32) then (L_law_c701 xs L rec23 v4 M) else (if ((gS xs v4) &&& (31 : Int32)) = (10 : Int32) then (L_law_c756 xs L rec23 v4 M) else (if ((gS xs v4) &&& (31 : Int32)) = (11 : Int32) then (L_law_c811 xs L rec23 v4 M) else (if ((gS xs v4) &&& (31 : Int32)) = (12 : Int32) then (L_law_c825 xs L rec23 v4 M) else (if ((gS xs v4) &&& (31 : Int32)) = (13 : Int32) then (L_law_c881 xs L rec23 v4 M) else (if ((gS xs v4) &&& (31 : Int32)) = (14 : Int32) then (L_law_c937 xs L rec23 v4 M) else (if ((gS xs v4) &&& (31 : Int32)) = (15 : Int32) then (L_law_c1005 xs L rec23 v4 M) else (if ((gS xs v4) &&& (31 : Int32)) = (16 : Int32) then (L_law_c1073 xs L rec23 v4 M) else (if ((gS xs v4) &&& (31 : Int32)) = (17 : Int32) then (L_law_c1129 xs L rec23 v4 M) else (if ((gS xs v4) &&& (31 : Int32)) = (18 : Int32) then (L_law_c1185 xs L rec23 v4 M) else (if ((gS xs v4) &&& (31 : Int32)) = (19 : Int32) then (L_law_c1296 xs L rec23 v4 M) else (if ((gS xs v4) &&& (31 : Int32)) = (20 : Int32) then (L_law_c1352 xs L rec23 v4 M) else (rec23 (v4 + (5 : Int32)) M)))))))))))))))))))))))
def L_law_L23 (xs : Nat → Int32) (L : Nat) : Nat → Int32 → Me → Option (Int32 × Me)
  | 0, _, _ => none
  | F + 1, v4, M => L_law_b23 xs L (L_law_L23 xs L F) v4 M
theorem q_L_law_c1352 {l : Launch} {D : va_G} {B b : Nat} {ad : Nat → Nat} {k0 n0 : Nat} (hk : k0 + 5 ≤ 601024) (hn : n0 + 30 ≤ 7293034) {r : Int32 × Me} (hr : r.1 = 1) (xs : Nat → Int32) (L : Nat) (rec23 : Int32 → Me → Option (Int32 × Me)) (hrec23 : ∀ (v4 : Int32) (M : Me), rec23 v4 M = some r → ab_V (ab_kl l D B b L xs) ad 23 [(0, .ref 999), (1, .ref 0), (2, .ref 3), (3, .ref 36), (4, .int v4)] [] (lay M) (k0 + 5) (n0 + 30)) (v4 : Int32) (M : Me) (hyp : L_law_c1352 xs L rec23 v4 M = some r) : ab_V (ab_kl l D B b L xs) ad 1352 [(0, .ref 999), (1, .ref 0), (2, .ref 3), (3, .ref 36), (4, .int v4)] [] (lay M) k0 n0 := by
  unfold L_law_c1352 at hyp
  refine ab_aload_n 1353 d_L_law_1352 rfl ?_
  obtain ⟨r2, hc1, hyp⟩ := ab_bind hyp
  refine ab_callV (h' := lay M) (hf := ⟨nbC (a := k0) (by omega), nbS (a := n0) (by omega)⟩) 1356 k0 n0 [] [.long r2] d_L_law_1353 ok_H_planned ll_0 (c_H_planned hc1) rfl rfl ?_
  refine ab_aload_n 1357 d_L_law_1356 rfl ?_
  obtain ⟨r4, hc3, hyp⟩ := ab_bind hyp
  refine ab_callV (h' := lay r4.2) (hf := ⟨nbC (a := k0) (by omega), nbS (a := n0) (by omega)⟩) 1360 k0 n0 [.long r2] [.long r4.1, .long r2] d_L_law_1357 ok_M_planned ll_1 (c_M_planned hc3) rfl rfl ?_
  refine ab_lc_eq 1366 1361 1364 d_L_law_1360 d_L_law_1361 (fun z5 => ?_) (fun z5 => ?_)
  · replace hyp := ab_pos z5 hyp
    refine ab_iinc 1369 [(4, _), (0, _), (1, _), (2, _), (3, _)] d_L_law_1366 (5 : Int32) (by decide) rfl rfl ?_
    refine ab_goto 23 d_L_law_1369 ?_
    refine ab_wide (k' := k0 + 5) (n' := n0 + 30) (by omega) (by omega) ?_
    refine ab_pick [1, 2, 3, 4, 0] [(0, _), (1, _), (2, _), (3, _), (4, _)] rfl ?_
    exact hrec23 (v4 + (5 : Int32)) r4.2 hyp
  · replace hyp := ab_neg z5 hyp
    refine ab_iconst 1365 d_L_law_1364 (0 : Int32) (by decide) ?_
    cases hyp
    exact absurd (show (0 : Int32) = 1 from hr) (by decide)
theorem q_L_law_c1296 {l : Launch} {D : va_G} {B b : Nat} {ad : Nat → Nat} {k0 n0 : Nat} (hk : k0 + 5 ≤ 601024) (hn : n0 + 30 ≤ 7293034) {r : Int32 × Me} (hr : r.1 = 1) (xs : Nat → Int32) (L : Nat) (rec23 : Int32 → Me → Option (Int32 × Me)) (hrec23 : ∀ (v4 : Int32) (M : Me), rec23 v4 M = some r → ab_V (ab_kl l D B b L xs) ad 23 [(0, .ref 999), (1, .ref 0), (2, .ref 3), (3, .ref 36), (4, .int v4)] [] (lay M) (k0 + 5) (n0 + 30)) (v4 : Int32) (M : Me) (hyp : L_law_c1296 xs L rec23 v4 M = some r) : ab_V (ab_kl l D B b L xs) ad 1296 [(0, .ref 999), (1, .ref 0), (2, .ref 3), (3, .ref 36), (4, .int v4)] [] (lay M) k0 n0 := by
  unfold L_law_c1296 at hyp
  refine ab_aload_n 1297 d_L_law_1296 rfl ?_
  refine ab_aload_n 1298 d_L_law_1297 rfl ?_
  refine ab_iload 1300 d_L_law_1298 rfl ?_
  refine ab_iconst 1301 d_L_law_1300 (1 : Int32) (by decide) ?_
  refine ab_iadd 1302 d_L_law_1301 ?_
  obtain ⟨g1, hyp⟩ := ab_gd hyp
  refine ab_sld 1303 d_L_law_1302 g1 ?_
  refine ab_aload_n 1304 d_L_law_1303 rfl ?_
  obtain ⟨r3, hc2, hyp⟩ := ab_bind hyp
  refine ab_callS (h' := lay r3.2) (hf := ⟨nbC (a := (k0 + 1)) (by omega), nbS (a := (n0 + 6)) (by omega)⟩) 1307 (k0 + 1) (n0 + 6) [] [.int r3.1] d_L_law_1304 ok_L_bull ll_2 (c_L_bull hc2) rfl ?_
  refine ab_istore 1309 [(5, _), (0, _), (1, _), (2, _), (3, _), (4, _)] d_L_law_1307 rfl ?_
  refine ab_aload_n 1310 d_L_law_1309 rfl ?_
  refine ab_aload_n 1311 d_L_law_1310 rfl ?_
  refine ab_iload 1313 d_L_law_1311 rfl ?_
  refine ab_iconst 1314 d_L_law_1313 (1 : Int32) (by decide) ?_
  refine ab_iadd 1315 d_L_law_1314 ?_
  obtain ⟨g4, hyp⟩ := ab_gd hyp
  refine ab_sld 1316 d_L_law_1315 g4 ?_
  obtain ⟨r6, hc5, hyp⟩ := ab_bind hyp
  refine ab_callV (h' := lay r6.2) (hf := ⟨nbC (a := (k0 + 1)) (by omega), nbS (a := (n0 + 6)) (by omega)⟩) 1319 (k0 + 1) (n0 + 6) [] [.int r6.1] d_L_law_1316 ok_M_bull ll_3 (c_M_bull hc5) rfl rfl ?_
  refine ab_istore 1321 [(6, _), (5, _), (0, _), (1, _), (2, _), (3, _), (4, _)] d_L_law_1319 rfl ?_
  refine ab_aload_n 1322 d_L_law_1321 rfl ?_
  obtain ⟨r8, hc7, hyp⟩ := ab_bind hyp
  refine ab_callV (h' := lay r6.2) (hf := ⟨nbC (a := (k0 + 1)) (by omega), nbS (a := (n0 + 6)) (by omega)⟩) 1325 (k0 + 1) (n0 + 6) [] [.int r8] d_L_law_1322 ok_M_thrown ll_4 (c_M_thrown hc7) rfl rfl ?_
  refine ab_iload 1327 d_L_law_1325 rfl ?_
  refine ab_ic_eq 1332 1330 d_L_law_1327 (fun z9 => ?_) (fun z9 => ?_)
  · replace hyp := ab_pos z9 hyp
    refine ab_iload 1334 d_L_law_1332 rfl ?_
    refine ab_if_ne 1349 1337 d_L_law_1334 (fun z10 => ?_) (fun z10 => ?_)
    · replace hyp := ab_neg z10 hyp
      refine ab_goto 1366 d_L_law_1349 ?_
      refine ab_iinc 1369 [(4, _), (6, _), (5, _), (0, _), (1, _), (2, _), (3, _)] d_L_law_1366 (5 : Int32) (by decide) rfl rfl ?_
      refine ab_goto 23 d_L_law_1369 ?_
      refine ab_wide (k' := k0 + 5) (n' := n0 + 30) (by omega) (by omega) ?_
      refine ab_pick [3, 4, 5, 6, 0] [(0, _), (1, _), (2, _), (3, _), (4, _)] rfl ?_
      exact hrec23 (v4 + (5 : Int32)) r6.2 hyp
    · replace hyp := ab_pos z10 hyp
      refine ab_aload_n 1338 d_L_law_1337 rfl ?_
      refine ab_iconst 1339 d_L_law_1338 (0 : Int32) (by decide) ?_
      obtain ⟨g11, hyp⟩ := ab_gd hyp
      refine ab_lld 7 1 1340 d_L_law_1339 rfl g11 ?_
      refine ab_iload 1342 d_L_law_1340 rfl ?_
      refine ab_i2l 1343 d_L_law_1342 ?_
      refine ab_lc_eq 1349 1344 1347 d_L_law_1343 d_L_law_1344 (fun z12 => ?_) (fun z12 => ?_)
      · replace hyp := ab_pos z12 hyp
        refine ab_goto 1366 d_L_law_1349 ?_
        refine ab_iinc 1369 [(4, _), (6, _), (5, _), (0, _), (1, _), (2, _), (3, _)] d_L_law_1366 (5 : Int32) (by decide) rfl rfl ?_
        refine ab_goto 23 d_L_law_1369 ?_
        refine ab_wide (k' := k0 + 5) (n' := n0 + 30) (by omega) (by omega) ?_
        refine ab_pick [3, 4, 5, 6, 0] [(0, _), (1, _), (2, _), (3, _), (4, _)] rfl ?_
        exact hrec23 (v4 + (5 : Int32)) r6.2 hyp
      · replace hyp := ab_neg z12 hyp
        refine ab_iconst 1348 d_L_law_1347 (0 : Int32) (by decide) ?_
        cases hyp
        exact absurd (show (0 : Int32) = 1 from hr) (by decide)
  · replace hyp := ab_neg z9 hyp
    refine ab_iconst 1331 d_L_law_1330 (0 : Int32) (by decide) ?_
    cases hyp
    exact absurd (show (0 : Int32) = 1 from hr) (by decide)
theorem q_L_law_c1185 {l : Launch} {D : va_G} {B b : Nat} {ad : Nat → Nat} {k0 n0 : Nat} (hk : k0 + 5 ≤ 601024) (hn : n0 + 30 ≤ 7293034) {r : Int32 × Me} (hr : r.1 = 1) (xs : Nat → Int32) (L : Nat) (rec23 : Int32 → Me → Option (Int32 × Me)) (hrec23 : ∀ (v4 : Int32) (M : Me), rec23 v4 M = some r → ab_V (ab_kl l D B b L xs) ad 23 [(0, .ref 999), (1, .ref 0), (2, .ref 3), (3, .ref 36), (4, .int v4)] [] (lay M) (k0 + 5) (n0 + 30)) (v4 : Int32) (M : Me) (hyp : L_law_c1185 xs L rec23 v4 M = some r) : ab_V (ab_kl l D B b L xs) ad 1185 [(0, .ref 999), (1, .ref 0), (2, .ref 3), (3, .ref 36), (4, .int v4)] [] (lay M) k0 n0 := by
  unfold L_law_c1185 at hyp
  refine ab_aload_n 1186 d_L_law_1185 rfl ?_
  refine ab_aload_n 1187 d_L_law_1186 rfl ?_
  refine ab_iload 1189 d_L_law_1187 rfl ?_
  refine ab_iconst 1190 d_L_law_1189 (1 : Int32) (by decide) ?_
  refine ab_iadd 1191 d_L_law_1190 ?_
  obtain ⟨g1, hyp⟩ := ab_gd hyp
  refine ab_sld 1192 d_L_law_1191 g1 ?_
  refine ab_aload_n 1193 d_L_law_1192 rfl ?_
  refine ab_iload 1195 d_L_law_1193 rfl ?_
  refine ab_iconst 1196 d_L_law_1195 (2 : Int32) (by decide) ?_
  refine ab_iadd 1197 d_L_law_1196 ?_
  obtain ⟨g2, hyp⟩ := ab_gd hyp
  refine ab_sld 1198 d_L_law_1197 g2 ?_
  refine ab_aload_n 1199 d_L_law_1198 rfl ?_
  refine ab_iload 1201 d_L_law_1199 rfl ?_
  refine ab_iconst 1202 d_L_law_1201 (3 : Int32) (by decide) ?_
  refine ab_iadd 1203 d_L_law_1202 ?_
  obtain ⟨g3, hyp⟩ := ab_gd hyp
  refine ab_sld 1204 d_L_law_1203 g3 ?_
  refine ab_i2l 1205 d_L_law_1204 ?_
  refine ab_bipush 1207 d_L_law_1205 (32 : Int32) (by decide) ?_
  refine ab_lshl 1208 d_L_law_1207 ?_
  refine ab_aload_n 1209 d_L_law_1208 rfl ?_
  refine ab_iload 1211 d_L_law_1209 rfl ?_
  refine ab_iconst 1212 d_L_law_1211 (4 : Int32) (by decide) ?_
  refine ab_iadd 1213 d_L_law_1212 ?_
  obtain ⟨g4, hyp⟩ := ab_gd hyp
  refine ab_sld 1214 d_L_law_1213 g4 ?_
  refine ab_i2l 1215 d_L_law_1214 ?_
  refine ab_ldc2 (v := (4294967295 : Int64)) 1218 d_L_law_1215 lww_0 ?_
  refine ab_land 1219 d_L_law_1218 ?_
  refine ab_lor 1220 d_L_law_1219 ?_
  refine ab_aload_n 1221 d_L_law_1220 rfl ?_
  obtain ⟨r6, hc5, hyp⟩ := ab_bind hyp
  refine ab_callS (h' := lay r6.2) (hf := ⟨nbC (a := (k0 + 1)) (by omega), nbS (a := (n0 + 6)) (by omega)⟩) 1224 (k0 + 1) (n0 + 6) [] [.int r6.1] d_L_law_1221 ok_L_plan ll_5 (c_L_plan hc5) rfl ?_
  refine ab_istore 1226 [(5, _), (0, _), (1, _), (2, _), (3, _), (4, _)] d_L_law_1224 rfl ?_
  refine ab_aload_n 1227 d_L_law_1226 rfl ?_
  refine ab_aload_n 1228 d_L_law_1227 rfl ?_
  refine ab_iload 1230 d_L_law_1228 rfl ?_
  refine ab_iconst 1231 d_L_law_1230 (1 : Int32) (by decide) ?_
  refine ab_iadd 1232 d_L_law_1231 ?_
  obtain ⟨g7, hyp⟩ := ab_gd hyp
  refine ab_sld 1233 d_L_law_1232 g7 ?_
  refine ab_aload_n 1234 d_L_law_1233 rfl ?_
  refine ab_iload 1236 d_L_law_1234 rfl ?_
  refine ab_iconst 1237 d_L_law_1236 (2 : Int32) (by decide) ?_
  refine ab_iadd 1238 d_L_law_1237 ?_
  obtain ⟨g8, hyp⟩ := ab_gd hyp
  refine ab_sld 1239 d_L_law_1238 g8 ?_
  refine ab_aload_n 1240 d_L_law_1239 rfl ?_
  refine ab_iload 1242 d_L_law_1240 rfl ?_
  refine ab_iconst 1243 d_L_law_1242 (3 : Int32) (by decide) ?_
  refine ab_iadd 1244 d_L_law_1243 ?_
  obtain ⟨g9, hyp⟩ := ab_gd hyp
  refine ab_sld 1245 d_L_law_1244 g9 ?_
  refine ab_i2l 1246 d_L_law_1245 ?_
  refine ab_bipush 1248 d_L_law_1246 (32 : Int32) (by decide) ?_
  refine ab_lshl 1249 d_L_law_1248 ?_
  refine ab_aload_n 1250 d_L_law_1249 rfl ?_
  refine ab_iload 1252 d_L_law_1250 rfl ?_
  refine ab_iconst 1253 d_L_law_1252 (4 : Int32) (by decide) ?_
  refine ab_iadd 1254 d_L_law_1253 ?_
  obtain ⟨g10, hyp⟩ := ab_gd hyp
  refine ab_sld 1255 d_L_law_1254 g10 ?_
  refine ab_i2l 1256 d_L_law_1255 ?_
  refine ab_ldc2 (v := (4294967295 : Int64)) 1259 d_L_law_1256 lww_0 ?_
  refine ab_land 1260 d_L_law_1259 ?_
  refine ab_lor 1261 d_L_law_1260 ?_
  obtain ⟨r12, hc11, hyp⟩ := ab_bind hyp
  refine ab_callV (h' := lay r12.2) (hf := ⟨nbC (a := (k0 + 1)) (by omega), nbS (a := (n0 + 6)) (by omega)⟩) 1264 (k0 + 1) (n0 + 6) [] [.long r12.1] d_L_law_1261 ok_M_plan ll_6 (c_M_plan hc11) rfl rfl ?_
  refine ab_lstore 1266 [(6, _), (5, _), (0, _), (1, _), (2, _), (3, _), (4, _)] d_L_law_1264 rfl ?_
  refine ab_aload_n 1267 d_L_law_1266 rfl ?_
  obtain ⟨r14, hc13, hyp⟩ := ab_bind hyp
  refine ab_callV (h' := lay r12.2) (hf := ⟨nbC (a := (k0 + 1)) (by omega), nbS (a := (n0 + 6)) (by omega)⟩) 1270 (k0 + 1) (n0 + 6) [] [.int r14] d_L_law_1267 ok_M_thrown ll_4 (c_M_thrown hc13) rfl rfl ?_
  refine ab_iload 1272 d_L_law_1270 rfl ?_
  refine ab_ic_eq 1277 1275 d_L_law_1272 (fun z15 => ?_) (fun z15 => ?_)
  · replace hyp := ab_pos z15 hyp
    refine ab_iload 1279 d_L_law_1277 rfl ?_
    refine ab_if_ne 1293 1282 d_L_law_1279 (fun z16 => ?_) (fun z16 => ?_)
    · replace hyp := ab_neg z16 hyp
      refine ab_goto 1366 d_L_law_1293 ?_
      refine ab_iinc 1369 [(4, _), (6, _), (5, _), (0, _), (1, _), (2, _), (3, _)] d_L_law_1366 (5 : Int32) (by decide) rfl rfl ?_
      refine ab_goto 23 d_L_law_1369 ?_
      refine ab_wide (k' := k0 + 5) (n' := n0 + 30) (by omega) (by omega) ?_
      refine ab_pick [3, 4, 5, 6, 0] [(0, _), (1, _), (2, _), (3, _), (4, _)] rfl ?_
      exact hrec23 (v4 + (5 : Int32)) r12.2 hyp
    · replace hyp := ab_pos z16 hyp
      refine ab_aload_n 1283 d_L_law_1282 rfl ?_
      refine ab_iconst 1284 d_L_law_1283 (0 : Int32) (by decide) ?_
      obtain ⟨g17, hyp⟩ := ab_gd hyp
      refine ab_lld 7 1 1285 d_L_law_1284 rfl g17 ?_
      refine ab_lload 1287 d_L_law_1285 rfl ?_
      refine ab_lc_eq 1293 1288 1291 d_L_law_1287 d_L_law_1288 (fun z18 => ?_) (fun z18 => ?_)
      · replace hyp := ab_pos z18 hyp
        refine ab_goto 1366 d_L_law_1293 ?_
        refine ab_iinc 1369 [(4, _), (6, _), (5, _), (0, _), (1, _), (2, _), (3, _)] d_L_law_1366 (5 : Int32) (by decide) rfl rfl ?_
        refine ab_goto 23 d_L_law_1369 ?_
        refine ab_wide (k' := k0 + 5) (n' := n0 + 30) (by omega) (by omega) ?_
        refine ab_pick [3, 4, 5, 6, 0] [(0, _), (1, _), (2, _), (3, _), (4, _)] rfl ?_
        exact hrec23 (v4 + (5 : Int32)) r12.2 hyp
      · replace hyp := ab_neg z18 hyp
        refine ab_iconst 1292 d_L_law_1291 (0 : Int32) (by decide) ?_
        cases hyp
        exact absurd (show (0 : Int32) = 1 from hr) (by decide)
  · replace hyp := ab_neg z15 hyp
    refine ab_iconst 1276 d_L_law_1275 (0 : Int32) (by decide) ?_
    cases hyp
    exact absurd (show (0 : Int32) = 1 from hr) (by decide)
theorem q_L_law_c1129 {l : Launch} {D : va_G} {B b : Nat} {ad : Nat → Nat} {k0 n0 : Nat} (hk : k0 + 5 ≤ 601024) (hn : n0 + 30 ≤ 7293034) {r : Int32 × Me} (hr : r.1 = 1) (xs : Nat → Int32) (L : Nat) (rec23 : Int32 → Me → Option (Int32 × Me)) (hrec23 : ∀ (v4 : Int32) (M : Me), rec23 v4 M = some r → ab_V (ab_kl l D B b L xs) ad 23 [(0, .ref 999), (1, .ref 0), (2, .ref 3), (3, .ref 36), (4, .int v4)] [] (lay M) (k0 + 5) (n0 + 30)) (v4 : Int32) (M : Me) (hyp : L_law_c1129 xs L rec23 v4 M = some r) : ab_V (ab_kl l D B b L xs) ad 1129 [(0, .ref 999), (1, .ref 0), (2, .ref 3), (3, .ref 36), (4, .int v4)] [] (lay M) k0 n0 := by
  unfold L_law_c1129 at hyp
  refine ab_aload_n 1130 d_L_law_1129 rfl ?_
  refine ab_aload_n 1131 d_L_law_1130 rfl ?_
  refine ab_iload 1133 d_L_law_1131 rfl ?_
  refine ab_iconst 1134 d_L_law_1133 (1 : Int32) (by decide) ?_
  refine ab_iadd 1135 d_L_law_1134 ?_
  obtain ⟨g1, hyp⟩ := ab_gd hyp
  refine ab_sld 1136 d_L_law_1135 g1 ?_
  refine ab_aload_n 1137 d_L_law_1136 rfl ?_
  obtain ⟨r3, hc2, hyp⟩ := ab_bind hyp
  refine ab_callS (h' := lay r3.2) (hf := ⟨nbC (a := (k0 + 1)) (by omega), nbS (a := (n0 + 6)) (by omega)⟩) 1140 (k0 + 1) (n0 + 6) [] [.int r3.1] d_L_law_1137 ok_L_bestBull ll_7 (c_L_bestBull hc2) rfl ?_
  refine ab_istore 1142 [(5, _), (0, _), (1, _), (2, _), (3, _), (4, _)] d_L_law_1140 rfl ?_
  refine ab_aload_n 1143 d_L_law_1142 rfl ?_
  refine ab_aload_n 1144 d_L_law_1143 rfl ?_
  refine ab_iload 1146 d_L_law_1144 rfl ?_
  refine ab_iconst 1147 d_L_law_1146 (1 : Int32) (by decide) ?_
  refine ab_iadd 1148 d_L_law_1147 ?_
  obtain ⟨g4, hyp⟩ := ab_gd hyp
  refine ab_sld 1149 d_L_law_1148 g4 ?_
  obtain ⟨r6, hc5, hyp⟩ := ab_bind hyp
  refine ab_callV (h' := lay r6.2) (hf := ⟨nbC (a := (k0 + 1)) (by omega), nbS (a := (n0 + 6)) (by omega)⟩) 1152 (k0 + 1) (n0 + 6) [] [.int r6.1] d_L_law_1149 ok_M_bestBull ll_8 (c_M_bestBull hc5) rfl rfl ?_
  refine ab_istore 1154 [(6, _), (5, _), (0, _), (1, _), (2, _), (3, _), (4, _)] d_L_law_1152 rfl ?_
  refine ab_aload_n 1155 d_L_law_1154 rfl ?_
  obtain ⟨r8, hc7, hyp⟩ := ab_bind hyp
  refine ab_callV (h' := lay r6.2) (hf := ⟨nbC (a := (k0 + 1)) (by omega), nbS (a := (n0 + 6)) (by omega)⟩) 1158 (k0 + 1) (n0 + 6) [] [.int r8] d_L_law_1155 ok_M_thrown ll_4 (c_M_thrown hc7) rfl rfl ?_
  refine ab_iload 1160 d_L_law_1158 rfl ?_
  refine ab_ic_eq 1165 1163 d_L_law_1160 (fun z9 => ?_) (fun z9 => ?_)
  · replace hyp := ab_pos z9 hyp
    refine ab_iload 1167 d_L_law_1165 rfl ?_
    refine ab_if_ne 1182 1170 d_L_law_1167 (fun z10 => ?_) (fun z10 => ?_)
    · replace hyp := ab_neg z10 hyp
      refine ab_goto 1366 d_L_law_1182 ?_
      refine ab_iinc 1369 [(4, _), (6, _), (5, _), (0, _), (1, _), (2, _), (3, _)] d_L_law_1366 (5 : Int32) (by decide) rfl rfl ?_
      refine ab_goto 23 d_L_law_1369 ?_
      refine ab_wide (k' := k0 + 5) (n' := n0 + 30) (by omega) (by omega) ?_
      refine ab_pick [3, 4, 5, 6, 0] [(0, _), (1, _), (2, _), (3, _), (4, _)] rfl ?_
      exact hrec23 (v4 + (5 : Int32)) r6.2 hyp
    · replace hyp := ab_pos z10 hyp
      refine ab_aload_n 1171 d_L_law_1170 rfl ?_
      refine ab_iconst 1172 d_L_law_1171 (0 : Int32) (by decide) ?_
      obtain ⟨g11, hyp⟩ := ab_gd hyp
      refine ab_lld 7 1 1173 d_L_law_1172 rfl g11 ?_
      refine ab_iload 1175 d_L_law_1173 rfl ?_
      refine ab_i2l 1176 d_L_law_1175 ?_
      refine ab_lc_eq 1182 1177 1180 d_L_law_1176 d_L_law_1177 (fun z12 => ?_) (fun z12 => ?_)
      · replace hyp := ab_pos z12 hyp
        refine ab_goto 1366 d_L_law_1182 ?_
        refine ab_iinc 1369 [(4, _), (6, _), (5, _), (0, _), (1, _), (2, _), (3, _)] d_L_law_1366 (5 : Int32) (by decide) rfl rfl ?_
        refine ab_goto 23 d_L_law_1369 ?_
        refine ab_wide (k' := k0 + 5) (n' := n0 + 30) (by omega) (by omega) ?_
        refine ab_pick [3, 4, 5, 6, 0] [(0, _), (1, _), (2, _), (3, _), (4, _)] rfl ?_
        exact hrec23 (v4 + (5 : Int32)) r6.2 hyp
      · replace hyp := ab_neg z12 hyp
        refine ab_iconst 1181 d_L_law_1180 (0 : Int32) (by decide) ?_
        cases hyp
        exact absurd (show (0 : Int32) = 1 from hr) (by decide)
  · replace hyp := ab_neg z9 hyp
    refine ab_iconst 1164 d_L_law_1163 (0 : Int32) (by decide) ?_
    cases hyp
    exact absurd (show (0 : Int32) = 1 from hr) (by decide)
theorem q_L_law_c1073 {l : Launch} {D : va_G} {B b : Nat} {ad : Nat → Nat} {k0 n0 : Nat} (hk : k0 + 5 ≤ 601024) (hn : n0 + 30 ≤ 7293034) {r : Int32 × Me} (hr : r.1 = 1) (xs : Nat → Int32) (L : Nat) (rec23 : Int32 → Me → Option (Int32 × Me)) (hrec23 : ∀ (v4 : Int32) (M : Me), rec23 v4 M = some r → ab_V (ab_kl l D B b L xs) ad 23 [(0, .ref 999), (1, .ref 0), (2, .ref 3), (3, .ref 36), (4, .int v4)] [] (lay M) (k0 + 5) (n0 + 30)) (v4 : Int32) (M : Me) (hyp : L_law_c1073 xs L rec23 v4 M = some r) : ab_V (ab_kl l D B b L xs) ad 1073 [(0, .ref 999), (1, .ref 0), (2, .ref 3), (3, .ref 36), (4, .int v4)] [] (lay M) k0 n0 := by
  unfold L_law_c1073 at hyp
  refine ab_aload_n 1074 d_L_law_1073 rfl ?_
  refine ab_aload_n 1075 d_L_law_1074 rfl ?_
  refine ab_iload 1077 d_L_law_1075 rfl ?_
  refine ab_iconst 1078 d_L_law_1077 (1 : Int32) (by decide) ?_
  refine ab_iadd 1079 d_L_law_1078 ?_
  obtain ⟨g1, hyp⟩ := ab_gd hyp
  refine ab_sld 1080 d_L_law_1079 g1 ?_
  refine ab_aload_n 1081 d_L_law_1080 rfl ?_
  obtain ⟨r3, hc2, hyp⟩ := ab_bind hyp
  refine ab_callS (h' := lay r3.2) (hf := ⟨nbC (a := (k0 + 1)) (by omega), nbS (a := (n0 + 6)) (by omega)⟩) 1084 (k0 + 1) (n0 + 6) [] [.int r3.1] d_L_law_1081 ok_L_closest ll_9 (c_L_closest hc2) rfl ?_
  refine ab_istore 1086 [(5, _), (0, _), (1, _), (2, _), (3, _), (4, _)] d_L_law_1084 rfl ?_
  refine ab_aload_n 1087 d_L_law_1086 rfl ?_
  refine ab_aload_n 1088 d_L_law_1087 rfl ?_
  refine ab_iload 1090 d_L_law_1088 rfl ?_
  refine ab_iconst 1091 d_L_law_1090 (1 : Int32) (by decide) ?_
  refine ab_iadd 1092 d_L_law_1091 ?_
  obtain ⟨g4, hyp⟩ := ab_gd hyp
  refine ab_sld 1093 d_L_law_1092 g4 ?_
  obtain ⟨r6, hc5, hyp⟩ := ab_bind hyp
  refine ab_callV (h' := lay r6.2) (hf := ⟨nbC (a := (k0 + 1)) (by omega), nbS (a := (n0 + 6)) (by omega)⟩) 1096 (k0 + 1) (n0 + 6) [] [.int r6.1] d_L_law_1093 ok_M_closest ll_10 (c_M_closest hc5) rfl rfl ?_
  refine ab_istore 1098 [(6, _), (5, _), (0, _), (1, _), (2, _), (3, _), (4, _)] d_L_law_1096 rfl ?_
  refine ab_aload_n 1099 d_L_law_1098 rfl ?_
  obtain ⟨r8, hc7, hyp⟩ := ab_bind hyp
  refine ab_callV (h' := lay r6.2) (hf := ⟨nbC (a := (k0 + 1)) (by omega), nbS (a := (n0 + 6)) (by omega)⟩) 1102 (k0 + 1) (n0 + 6) [] [.int r8] d_L_law_1099 ok_M_thrown ll_4 (c_M_thrown hc7) rfl rfl ?_
  refine ab_iload 1104 d_L_law_1102 rfl ?_
  refine ab_ic_eq 1109 1107 d_L_law_1104 (fun z9 => ?_) (fun z9 => ?_)
  · replace hyp := ab_pos z9 hyp
    refine ab_iload 1111 d_L_law_1109 rfl ?_
    refine ab_if_ne 1126 1114 d_L_law_1111 (fun z10 => ?_) (fun z10 => ?_)
    · replace hyp := ab_neg z10 hyp
      refine ab_goto 1366 d_L_law_1126 ?_
      refine ab_iinc 1369 [(4, _), (6, _), (5, _), (0, _), (1, _), (2, _), (3, _)] d_L_law_1366 (5 : Int32) (by decide) rfl rfl ?_
      refine ab_goto 23 d_L_law_1369 ?_
      refine ab_wide (k' := k0 + 5) (n' := n0 + 30) (by omega) (by omega) ?_
      refine ab_pick [3, 4, 5, 6, 0] [(0, _), (1, _), (2, _), (3, _), (4, _)] rfl ?_
      exact hrec23 (v4 + (5 : Int32)) r6.2 hyp
    · replace hyp := ab_pos z10 hyp
      refine ab_aload_n 1115 d_L_law_1114 rfl ?_
      refine ab_iconst 1116 d_L_law_1115 (0 : Int32) (by decide) ?_
      obtain ⟨g11, hyp⟩ := ab_gd hyp
      refine ab_lld 7 1 1117 d_L_law_1116 rfl g11 ?_
      refine ab_iload 1119 d_L_law_1117 rfl ?_
      refine ab_i2l 1120 d_L_law_1119 ?_
      refine ab_lc_eq 1126 1121 1124 d_L_law_1120 d_L_law_1121 (fun z12 => ?_) (fun z12 => ?_)
      · replace hyp := ab_pos z12 hyp
        refine ab_goto 1366 d_L_law_1126 ?_
        refine ab_iinc 1369 [(4, _), (6, _), (5, _), (0, _), (1, _), (2, _), (3, _)] d_L_law_1366 (5 : Int32) (by decide) rfl rfl ?_
        refine ab_goto 23 d_L_law_1369 ?_
        refine ab_wide (k' := k0 + 5) (n' := n0 + 30) (by omega) (by omega) ?_
        refine ab_pick [3, 4, 5, 6, 0] [(0, _), (1, _), (2, _), (3, _), (4, _)] rfl ?_
        exact hrec23 (v4 + (5 : Int32)) r6.2 hyp
      · replace hyp := ab_neg z12 hyp
        refine ab_iconst 1125 d_L_law_1124 (0 : Int32) (by decide) ?_
        cases hyp
        exact absurd (show (0 : Int32) = 1 from hr) (by decide)
  · replace hyp := ab_neg z9 hyp
    refine ab_iconst 1108 d_L_law_1107 (0 : Int32) (by decide) ?_
    cases hyp
    exact absurd (show (0 : Int32) = 1 from hr) (by decide)
theorem q_L_law_c1005 {l : Launch} {D : va_G} {B b : Nat} {ad : Nat → Nat} {k0 n0 : Nat} (hk : k0 + 5 ≤ 601024) (hn : n0 + 30 ≤ 7293034) {r : Int32 × Me} (hr : r.1 = 1) (xs : Nat → Int32) (L : Nat) (rec23 : Int32 → Me → Option (Int32 × Me)) (hrec23 : ∀ (v4 : Int32) (M : Me), rec23 v4 M = some r → ab_V (ab_kl l D B b L xs) ad 23 [(0, .ref 999), (1, .ref 0), (2, .ref 3), (3, .ref 36), (4, .int v4)] [] (lay M) (k0 + 5) (n0 + 30)) (v4 : Int32) (M : Me) (hyp : L_law_c1005 xs L rec23 v4 M = some r) : ab_V (ab_kl l D B b L xs) ad 1005 [(0, .ref 999), (1, .ref 0), (2, .ref 3), (3, .ref 36), (4, .int v4)] [] (lay M) k0 n0 := by
  unfold L_law_c1005 at hyp
  refine ab_aload_n 1006 d_L_law_1005 rfl ?_
  refine ab_aload_n 1007 d_L_law_1006 rfl ?_
  refine ab_iload 1009 d_L_law_1007 rfl ?_
  refine ab_iconst 1010 d_L_law_1009 (1 : Int32) (by decide) ?_
  refine ab_iadd 1011 d_L_law_1010 ?_
  obtain ⟨g1, hyp⟩ := ab_gd hyp
  refine ab_sld 1012 d_L_law_1011 g1 ?_
  refine ab_aload_n 1013 d_L_law_1012 rfl ?_
  refine ab_iload 1015 d_L_law_1013 rfl ?_
  refine ab_iconst 1016 d_L_law_1015 (2 : Int32) (by decide) ?_
  refine ab_iadd 1017 d_L_law_1016 ?_
  obtain ⟨g2, hyp⟩ := ab_gd hyp
  refine ab_sld 1018 d_L_law_1017 g2 ?_
  refine ab_aload_n 1019 d_L_law_1018 rfl ?_
  obtain ⟨r4, hc3, hyp⟩ := ab_bind hyp
  refine ab_callS (h' := lay r4.2) (hf := ⟨nbC (a := (k0 + 2)) (by omega), nbS (a := (n0 + 12)) (by omega)⟩) 1022 (k0 + 2) (n0 + 12) [] [.int r4.1] d_L_law_1019 ok_L_nearest ll_11 (c_L_nearest hc3) rfl ?_
  refine ab_istore 1024 [(5, _), (0, _), (1, _), (2, _), (3, _), (4, _)] d_L_law_1022 rfl ?_
  refine ab_aload_n 1025 d_L_law_1024 rfl ?_
  refine ab_aload_n 1026 d_L_law_1025 rfl ?_
  refine ab_iload 1028 d_L_law_1026 rfl ?_
  refine ab_iconst 1029 d_L_law_1028 (1 : Int32) (by decide) ?_
  refine ab_iadd 1030 d_L_law_1029 ?_
  obtain ⟨g5, hyp⟩ := ab_gd hyp
  refine ab_sld 1031 d_L_law_1030 g5 ?_
  refine ab_aload_n 1032 d_L_law_1031 rfl ?_
  refine ab_iload 1034 d_L_law_1032 rfl ?_
  refine ab_iconst 1035 d_L_law_1034 (2 : Int32) (by decide) ?_
  refine ab_iadd 1036 d_L_law_1035 ?_
  obtain ⟨g6, hyp⟩ := ab_gd hyp
  refine ab_sld 1037 d_L_law_1036 g6 ?_
  obtain ⟨r8, hc7, hyp⟩ := ab_bind hyp
  refine ab_callV (h' := lay r8.2) (hf := ⟨nbC (a := (k0 + 2)) (by omega), nbS (a := (n0 + 12)) (by omega)⟩) 1040 (k0 + 2) (n0 + 12) [] [.int r8.1] d_L_law_1037 ok_M_nearest ll_12 (c_M_nearest hc7) rfl rfl ?_
  refine ab_istore 1042 [(6, _), (5, _), (0, _), (1, _), (2, _), (3, _), (4, _)] d_L_law_1040 rfl ?_
  refine ab_aload_n 1043 d_L_law_1042 rfl ?_
  obtain ⟨r10, hc9, hyp⟩ := ab_bind hyp
  refine ab_callV (h' := lay r8.2) (hf := ⟨nbC (a := (k0 + 2)) (by omega), nbS (a := (n0 + 12)) (by omega)⟩) 1046 (k0 + 2) (n0 + 12) [] [.int r10] d_L_law_1043 ok_M_thrown ll_4 (c_M_thrown hc9) rfl rfl ?_
  refine ab_iload 1048 d_L_law_1046 rfl ?_
  refine ab_ic_eq 1053 1051 d_L_law_1048 (fun z11 => ?_) (fun z11 => ?_)
  · replace hyp := ab_pos z11 hyp
    refine ab_iload 1055 d_L_law_1053 rfl ?_
    refine ab_if_ne 1070 1058 d_L_law_1055 (fun z12 => ?_) (fun z12 => ?_)
    · replace hyp := ab_neg z12 hyp
      refine ab_goto 1366 d_L_law_1070 ?_
      refine ab_iinc 1369 [(4, _), (6, _), (5, _), (0, _), (1, _), (2, _), (3, _)] d_L_law_1366 (5 : Int32) (by decide) rfl rfl ?_
      refine ab_goto 23 d_L_law_1369 ?_
      refine ab_wide (k' := k0 + 5) (n' := n0 + 30) (by omega) (by omega) ?_
      refine ab_pick [3, 4, 5, 6, 0] [(0, _), (1, _), (2, _), (3, _), (4, _)] rfl ?_
      exact hrec23 (v4 + (5 : Int32)) r8.2 hyp
    · replace hyp := ab_pos z12 hyp
      refine ab_aload_n 1059 d_L_law_1058 rfl ?_
      refine ab_iconst 1060 d_L_law_1059 (0 : Int32) (by decide) ?_
      obtain ⟨g13, hyp⟩ := ab_gd hyp
      refine ab_lld 7 1 1061 d_L_law_1060 rfl g13 ?_
      refine ab_iload 1063 d_L_law_1061 rfl ?_
      refine ab_i2l 1064 d_L_law_1063 ?_
      refine ab_lc_eq 1070 1065 1068 d_L_law_1064 d_L_law_1065 (fun z14 => ?_) (fun z14 => ?_)
      · replace hyp := ab_pos z14 hyp
        refine ab_goto 1366 d_L_law_1070 ?_
        refine ab_iinc 1369 [(4, _), (6, _), (5, _), (0, _), (1, _), (2, _), (3, _)] d_L_law_1366 (5 : Int32) (by decide) rfl rfl ?_
        refine ab_goto 23 d_L_law_1369 ?_
        refine ab_wide (k' := k0 + 5) (n' := n0 + 30) (by omega) (by omega) ?_
        refine ab_pick [3, 4, 5, 6, 0] [(0, _), (1, _), (2, _), (3, _), (4, _)] rfl ?_
        exact hrec23 (v4 + (5 : Int32)) r8.2 hyp
      · replace hyp := ab_neg z14 hyp
        refine ab_iconst 1069 d_L_law_1068 (0 : Int32) (by decide) ?_
        cases hyp
        exact absurd (show (0 : Int32) = 1 from hr) (by decide)
  · replace hyp := ab_neg z11 hyp
    refine ab_iconst 1052 d_L_law_1051 (0 : Int32) (by decide) ?_
    cases hyp
    exact absurd (show (0 : Int32) = 1 from hr) (by decide)
theorem q_L_law_c937 {l : Launch} {D : va_G} {B b : Nat} {ad : Nat → Nat} {k0 n0 : Nat} (hk : k0 + 5 ≤ 601024) (hn : n0 + 30 ≤ 7293034) {r : Int32 × Me} (hr : r.1 = 1) (xs : Nat → Int32) (L : Nat) (rec23 : Int32 → Me → Option (Int32 × Me)) (hrec23 : ∀ (v4 : Int32) (M : Me), rec23 v4 M = some r → ab_V (ab_kl l D B b L xs) ad 23 [(0, .ref 999), (1, .ref 0), (2, .ref 3), (3, .ref 36), (4, .int v4)] [] (lay M) (k0 + 5) (n0 + 30)) (v4 : Int32) (M : Me) (hyp : L_law_c937 xs L rec23 v4 M = some r) : ab_V (ab_kl l D B b L xs) ad 937 [(0, .ref 999), (1, .ref 0), (2, .ref 3), (3, .ref 36), (4, .int v4)] [] (lay M) k0 n0 := by
  unfold L_law_c937 at hyp
  refine ab_aload_n 938 d_L_law_937 rfl ?_
  refine ab_aload_n 939 d_L_law_938 rfl ?_
  refine ab_iload 941 d_L_law_939 rfl ?_
  refine ab_iconst 942 d_L_law_941 (1 : Int32) (by decide) ?_
  refine ab_iadd 943 d_L_law_942 ?_
  obtain ⟨g1, hyp⟩ := ab_gd hyp
  refine ab_sld 944 d_L_law_943 g1 ?_
  refine ab_aload_n 945 d_L_law_944 rfl ?_
  refine ab_iload 947 d_L_law_945 rfl ?_
  refine ab_iconst 948 d_L_law_947 (2 : Int32) (by decide) ?_
  refine ab_iadd 949 d_L_law_948 ?_
  obtain ⟨g2, hyp⟩ := ab_gd hyp
  refine ab_sld 950 d_L_law_949 g2 ?_
  refine ab_aload_n 951 d_L_law_950 rfl ?_
  obtain ⟨r4, hc3, hyp⟩ := ab_bind hyp
  refine ab_callS (h' := lay r4.2) (hf := ⟨nbC (a := (k0 + 2)) (by omega), nbS (a := (n0 + 12)) (by omega)⟩) 954 (k0 + 2) (n0 + 12) [] [.int r4.1] d_L_law_951 ok_L_lines ll_13 (c_L_lines hc3) rfl ?_
  refine ab_istore 956 [(5, _), (0, _), (1, _), (2, _), (3, _), (4, _)] d_L_law_954 rfl ?_
  refine ab_aload_n 957 d_L_law_956 rfl ?_
  refine ab_aload_n 958 d_L_law_957 rfl ?_
  refine ab_iload 960 d_L_law_958 rfl ?_
  refine ab_iconst 961 d_L_law_960 (1 : Int32) (by decide) ?_
  refine ab_iadd 962 d_L_law_961 ?_
  obtain ⟨g5, hyp⟩ := ab_gd hyp
  refine ab_sld 963 d_L_law_962 g5 ?_
  refine ab_aload_n 964 d_L_law_963 rfl ?_
  refine ab_iload 966 d_L_law_964 rfl ?_
  refine ab_iconst 967 d_L_law_966 (2 : Int32) (by decide) ?_
  refine ab_iadd 968 d_L_law_967 ?_
  obtain ⟨g6, hyp⟩ := ab_gd hyp
  refine ab_sld 969 d_L_law_968 g6 ?_
  obtain ⟨r8, hc7, hyp⟩ := ab_bind hyp
  refine ab_callV (h' := lay r8.2) (hf := ⟨nbC (a := (k0 + 2)) (by omega), nbS (a := (n0 + 12)) (by omega)⟩) 972 (k0 + 2) (n0 + 12) [] [.int r8.1] d_L_law_969 ok_M_lines ll_14 (c_M_lines hc7) rfl rfl ?_
  refine ab_istore 974 [(6, _), (5, _), (0, _), (1, _), (2, _), (3, _), (4, _)] d_L_law_972 rfl ?_
  refine ab_aload_n 975 d_L_law_974 rfl ?_
  obtain ⟨r10, hc9, hyp⟩ := ab_bind hyp
  refine ab_callV (h' := lay r8.2) (hf := ⟨nbC (a := (k0 + 2)) (by omega), nbS (a := (n0 + 12)) (by omega)⟩) 978 (k0 + 2) (n0 + 12) [] [.int r10] d_L_law_975 ok_M_thrown ll_4 (c_M_thrown hc9) rfl rfl ?_
  refine ab_iload 980 d_L_law_978 rfl ?_
  refine ab_ic_eq 985 983 d_L_law_980 (fun z11 => ?_) (fun z11 => ?_)
  · replace hyp := ab_pos z11 hyp
    refine ab_iload 987 d_L_law_985 rfl ?_
    refine ab_if_ne 1002 990 d_L_law_987 (fun z12 => ?_) (fun z12 => ?_)
    · replace hyp := ab_neg z12 hyp
      refine ab_goto 1366 d_L_law_1002 ?_
      refine ab_iinc 1369 [(4, _), (6, _), (5, _), (0, _), (1, _), (2, _), (3, _)] d_L_law_1366 (5 : Int32) (by decide) rfl rfl ?_
      refine ab_goto 23 d_L_law_1369 ?_
      refine ab_wide (k' := k0 + 5) (n' := n0 + 30) (by omega) (by omega) ?_
      refine ab_pick [3, 4, 5, 6, 0] [(0, _), (1, _), (2, _), (3, _), (4, _)] rfl ?_
      exact hrec23 (v4 + (5 : Int32)) r8.2 hyp
    · replace hyp := ab_pos z12 hyp
      refine ab_aload_n 991 d_L_law_990 rfl ?_
      refine ab_iconst 992 d_L_law_991 (0 : Int32) (by decide) ?_
      obtain ⟨g13, hyp⟩ := ab_gd hyp
      refine ab_lld 7 1 993 d_L_law_992 rfl g13 ?_
      refine ab_iload 995 d_L_law_993 rfl ?_
      refine ab_i2l 996 d_L_law_995 ?_
      refine ab_lc_eq 1002 997 1000 d_L_law_996 d_L_law_997 (fun z14 => ?_) (fun z14 => ?_)
      · replace hyp := ab_pos z14 hyp
        refine ab_goto 1366 d_L_law_1002 ?_
        refine ab_iinc 1369 [(4, _), (6, _), (5, _), (0, _), (1, _), (2, _), (3, _)] d_L_law_1366 (5 : Int32) (by decide) rfl rfl ?_
        refine ab_goto 23 d_L_law_1369 ?_
        refine ab_wide (k' := k0 + 5) (n' := n0 + 30) (by omega) (by omega) ?_
        refine ab_pick [3, 4, 5, 6, 0] [(0, _), (1, _), (2, _), (3, _), (4, _)] rfl ?_
        exact hrec23 (v4 + (5 : Int32)) r8.2 hyp
      · replace hyp := ab_neg z14 hyp
        refine ab_iconst 1001 d_L_law_1000 (0 : Int32) (by decide) ?_
        cases hyp
        exact absurd (show (0 : Int32) = 1 from hr) (by decide)
  · replace hyp := ab_neg z11 hyp
    refine ab_iconst 984 d_L_law_983 (0 : Int32) (by decide) ?_
    cases hyp
    exact absurd (show (0 : Int32) = 1 from hr) (by decide)
theorem q_L_law_c881 {l : Launch} {D : va_G} {B b : Nat} {ad : Nat → Nat} {k0 n0 : Nat} (hk : k0 + 5 ≤ 601024) (hn : n0 + 30 ≤ 7293034) {r : Int32 × Me} (hr : r.1 = 1) (xs : Nat → Int32) (L : Nat) (rec23 : Int32 → Me → Option (Int32 × Me)) (hrec23 : ∀ (v4 : Int32) (M : Me), rec23 v4 M = some r → ab_V (ab_kl l D B b L xs) ad 23 [(0, .ref 999), (1, .ref 0), (2, .ref 3), (3, .ref 36), (4, .int v4)] [] (lay M) (k0 + 5) (n0 + 30)) (v4 : Int32) (M : Me) (hyp : L_law_c881 xs L rec23 v4 M = some r) : ab_V (ab_kl l D B b L xs) ad 881 [(0, .ref 999), (1, .ref 0), (2, .ref 3), (3, .ref 36), (4, .int v4)] [] (lay M) k0 n0 := by
  unfold L_law_c881 at hyp
  refine ab_aload_n 882 d_L_law_881 rfl ?_
  refine ab_aload_n 883 d_L_law_882 rfl ?_
  refine ab_iload 885 d_L_law_883 rfl ?_
  refine ab_iconst 886 d_L_law_885 (1 : Int32) (by decide) ?_
  refine ab_iadd 887 d_L_law_886 ?_
  obtain ⟨g1, hyp⟩ := ab_gd hyp
  refine ab_sld 888 d_L_law_887 g1 ?_
  refine ab_aload_n 889 d_L_law_888 rfl ?_
  obtain ⟨r3, hc2, hyp⟩ := ab_bind hyp
  refine ab_callS (h' := lay r3.2) (hf := ⟨nbC (a := (k0 + 1)) (by omega), nbS (a := (n0 + 6)) (by omega)⟩) 892 (k0 + 1) (n0 + 6) [] [.int r3.1] d_L_law_889 ok_L_descendants ll_15 (c_L_descendants hc2) rfl ?_
  refine ab_istore 894 [(5, _), (0, _), (1, _), (2, _), (3, _), (4, _)] d_L_law_892 rfl ?_
  refine ab_aload_n 895 d_L_law_894 rfl ?_
  refine ab_aload_n 896 d_L_law_895 rfl ?_
  refine ab_iload 898 d_L_law_896 rfl ?_
  refine ab_iconst 899 d_L_law_898 (1 : Int32) (by decide) ?_
  refine ab_iadd 900 d_L_law_899 ?_
  obtain ⟨g4, hyp⟩ := ab_gd hyp
  refine ab_sld 901 d_L_law_900 g4 ?_
  obtain ⟨r6, hc5, hyp⟩ := ab_bind hyp
  refine ab_callV (h' := lay r6.2) (hf := ⟨nbC (a := (k0 + 1)) (by omega), nbS (a := (n0 + 6)) (by omega)⟩) 904 (k0 + 1) (n0 + 6) [] [.int r6.1] d_L_law_901 ok_M_descendants ll_16 (c_M_descendants hc5) rfl rfl ?_
  refine ab_istore 906 [(6, _), (5, _), (0, _), (1, _), (2, _), (3, _), (4, _)] d_L_law_904 rfl ?_
  refine ab_aload_n 907 d_L_law_906 rfl ?_
  obtain ⟨r8, hc7, hyp⟩ := ab_bind hyp
  refine ab_callV (h' := lay r6.2) (hf := ⟨nbC (a := (k0 + 1)) (by omega), nbS (a := (n0 + 6)) (by omega)⟩) 910 (k0 + 1) (n0 + 6) [] [.int r8] d_L_law_907 ok_M_thrown ll_4 (c_M_thrown hc7) rfl rfl ?_
  refine ab_iload 912 d_L_law_910 rfl ?_
  refine ab_ic_eq 917 915 d_L_law_912 (fun z9 => ?_) (fun z9 => ?_)
  · replace hyp := ab_pos z9 hyp
    refine ab_iload 919 d_L_law_917 rfl ?_
    refine ab_if_ne 934 922 d_L_law_919 (fun z10 => ?_) (fun z10 => ?_)
    · replace hyp := ab_neg z10 hyp
      refine ab_goto 1366 d_L_law_934 ?_
      refine ab_iinc 1369 [(4, _), (6, _), (5, _), (0, _), (1, _), (2, _), (3, _)] d_L_law_1366 (5 : Int32) (by decide) rfl rfl ?_
      refine ab_goto 23 d_L_law_1369 ?_
      refine ab_wide (k' := k0 + 5) (n' := n0 + 30) (by omega) (by omega) ?_
      refine ab_pick [3, 4, 5, 6, 0] [(0, _), (1, _), (2, _), (3, _), (4, _)] rfl ?_
      exact hrec23 (v4 + (5 : Int32)) r6.2 hyp
    · replace hyp := ab_pos z10 hyp
      refine ab_aload_n 923 d_L_law_922 rfl ?_
      refine ab_iconst 924 d_L_law_923 (0 : Int32) (by decide) ?_
      obtain ⟨g11, hyp⟩ := ab_gd hyp
      refine ab_lld 7 1 925 d_L_law_924 rfl g11 ?_
      refine ab_iload 927 d_L_law_925 rfl ?_
      refine ab_i2l 928 d_L_law_927 ?_
      refine ab_lc_eq 934 929 932 d_L_law_928 d_L_law_929 (fun z12 => ?_) (fun z12 => ?_)
      · replace hyp := ab_pos z12 hyp
        refine ab_goto 1366 d_L_law_934 ?_
        refine ab_iinc 1369 [(4, _), (6, _), (5, _), (0, _), (1, _), (2, _), (3, _)] d_L_law_1366 (5 : Int32) (by decide) rfl rfl ?_
        refine ab_goto 23 d_L_law_1369 ?_
        refine ab_wide (k' := k0 + 5) (n' := n0 + 30) (by omega) (by omega) ?_
        refine ab_pick [3, 4, 5, 6, 0] [(0, _), (1, _), (2, _), (3, _), (4, _)] rfl ?_
        exact hrec23 (v4 + (5 : Int32)) r6.2 hyp
      · replace hyp := ab_neg z12 hyp
        refine ab_iconst 933 d_L_law_932 (0 : Int32) (by decide) ?_
        cases hyp
        exact absurd (show (0 : Int32) = 1 from hr) (by decide)
  · replace hyp := ab_neg z9 hyp
    refine ab_iconst 916 d_L_law_915 (0 : Int32) (by decide) ?_
    cases hyp
    exact absurd (show (0 : Int32) = 1 from hr) (by decide)
theorem q_L_law_c825 {l : Launch} {D : va_G} {B b : Nat} {ad : Nat → Nat} {k0 n0 : Nat} (hk : k0 + 5 ≤ 601024) (hn : n0 + 30 ≤ 7293034) {r : Int32 × Me} (hr : r.1 = 1) (xs : Nat → Int32) (L : Nat) (rec23 : Int32 → Me → Option (Int32 × Me)) (hrec23 : ∀ (v4 : Int32) (M : Me), rec23 v4 M = some r → ab_V (ab_kl l D B b L xs) ad 23 [(0, .ref 999), (1, .ref 0), (2, .ref 3), (3, .ref 36), (4, .int v4)] [] (lay M) (k0 + 5) (n0 + 30)) (v4 : Int32) (M : Me) (hyp : L_law_c825 xs L rec23 v4 M = some r) : ab_V (ab_kl l D B b L xs) ad 825 [(0, .ref 999), (1, .ref 0), (2, .ref 3), (3, .ref 36), (4, .int v4)] [] (lay M) k0 n0 := by
  unfold L_law_c825 at hyp
  refine ab_aload_n 826 d_L_law_825 rfl ?_
  refine ab_aload_n 827 d_L_law_826 rfl ?_
  refine ab_iload 829 d_L_law_827 rfl ?_
  refine ab_iconst 830 d_L_law_829 (1 : Int32) (by decide) ?_
  refine ab_iadd 831 d_L_law_830 ?_
  obtain ⟨g1, hyp⟩ := ab_gd hyp
  refine ab_sld 832 d_L_law_831 g1 ?_
  refine ab_aload_n 833 d_L_law_832 rfl ?_
  obtain ⟨r3, hc2, hyp⟩ := ab_bind hyp
  refine ab_callS (h' := lay r3.2) (hf := ⟨nbC (a := (k0 + 1)) (by omega), nbS (a := (n0 + 6)) (by omega)⟩) 836 (k0 + 1) (n0 + 6) [] [.int r3.1] d_L_law_833 ok_L_ancestors ll_17 (c_L_ancestors hc2) rfl ?_
  refine ab_istore 838 [(5, _), (0, _), (1, _), (2, _), (3, _), (4, _)] d_L_law_836 rfl ?_
  refine ab_aload_n 839 d_L_law_838 rfl ?_
  refine ab_aload_n 840 d_L_law_839 rfl ?_
  refine ab_iload 842 d_L_law_840 rfl ?_
  refine ab_iconst 843 d_L_law_842 (1 : Int32) (by decide) ?_
  refine ab_iadd 844 d_L_law_843 ?_
  obtain ⟨g4, hyp⟩ := ab_gd hyp
  refine ab_sld 845 d_L_law_844 g4 ?_
  obtain ⟨r6, hc5, hyp⟩ := ab_bind hyp
  refine ab_callV (h' := lay r6.2) (hf := ⟨nbC (a := (k0 + 1)) (by omega), nbS (a := (n0 + 6)) (by omega)⟩) 848 (k0 + 1) (n0 + 6) [] [.int r6.1] d_L_law_845 ok_M_ancestors ll_18 (c_M_ancestors hc5) rfl rfl ?_
  refine ab_istore 850 [(6, _), (5, _), (0, _), (1, _), (2, _), (3, _), (4, _)] d_L_law_848 rfl ?_
  refine ab_aload_n 851 d_L_law_850 rfl ?_
  obtain ⟨r8, hc7, hyp⟩ := ab_bind hyp
  refine ab_callV (h' := lay r6.2) (hf := ⟨nbC (a := (k0 + 1)) (by omega), nbS (a := (n0 + 6)) (by omega)⟩) 854 (k0 + 1) (n0 + 6) [] [.int r8] d_L_law_851 ok_M_thrown ll_4 (c_M_thrown hc7) rfl rfl ?_
  refine ab_iload 856 d_L_law_854 rfl ?_
  refine ab_ic_eq 861 859 d_L_law_856 (fun z9 => ?_) (fun z9 => ?_)
  · replace hyp := ab_pos z9 hyp
    refine ab_iload 863 d_L_law_861 rfl ?_
    refine ab_if_ne 878 866 d_L_law_863 (fun z10 => ?_) (fun z10 => ?_)
    · replace hyp := ab_neg z10 hyp
      refine ab_goto 1366 d_L_law_878 ?_
      refine ab_iinc 1369 [(4, _), (6, _), (5, _), (0, _), (1, _), (2, _), (3, _)] d_L_law_1366 (5 : Int32) (by decide) rfl rfl ?_
      refine ab_goto 23 d_L_law_1369 ?_
      refine ab_wide (k' := k0 + 5) (n' := n0 + 30) (by omega) (by omega) ?_
      refine ab_pick [3, 4, 5, 6, 0] [(0, _), (1, _), (2, _), (3, _), (4, _)] rfl ?_
      exact hrec23 (v4 + (5 : Int32)) r6.2 hyp
    · replace hyp := ab_pos z10 hyp
      refine ab_aload_n 867 d_L_law_866 rfl ?_
      refine ab_iconst 868 d_L_law_867 (0 : Int32) (by decide) ?_
      obtain ⟨g11, hyp⟩ := ab_gd hyp
      refine ab_lld 7 1 869 d_L_law_868 rfl g11 ?_
      refine ab_iload 871 d_L_law_869 rfl ?_
      refine ab_i2l 872 d_L_law_871 ?_
      refine ab_lc_eq 878 873 876 d_L_law_872 d_L_law_873 (fun z12 => ?_) (fun z12 => ?_)
      · replace hyp := ab_pos z12 hyp
        refine ab_goto 1366 d_L_law_878 ?_
        refine ab_iinc 1369 [(4, _), (6, _), (5, _), (0, _), (1, _), (2, _), (3, _)] d_L_law_1366 (5 : Int32) (by decide) rfl rfl ?_
        refine ab_goto 23 d_L_law_1369 ?_
        refine ab_wide (k' := k0 + 5) (n' := n0 + 30) (by omega) (by omega) ?_
        refine ab_pick [3, 4, 5, 6, 0] [(0, _), (1, _), (2, _), (3, _), (4, _)] rfl ?_
        exact hrec23 (v4 + (5 : Int32)) r6.2 hyp
      · replace hyp := ab_neg z12 hyp
        refine ab_iconst 877 d_L_law_876 (0 : Int32) (by decide) ?_
        cases hyp
        exact absurd (show (0 : Int32) = 1 from hr) (by decide)
  · replace hyp := ab_neg z9 hyp
    refine ab_iconst 860 d_L_law_859 (0 : Int32) (by decide) ?_
    cases hyp
    exact absurd (show (0 : Int32) = 1 from hr) (by decide)
theorem q_L_law_c811 {l : Launch} {D : va_G} {B b : Nat} {ad : Nat → Nat} {k0 n0 : Nat} (hk : k0 + 5 ≤ 601024) (hn : n0 + 30 ≤ 7293034) {r : Int32 × Me} (hr : r.1 = 1) (xs : Nat → Int32) (L : Nat) (rec23 : Int32 → Me → Option (Int32 × Me)) (hrec23 : ∀ (v4 : Int32) (M : Me), rec23 v4 M = some r → ab_V (ab_kl l D B b L xs) ad 23 [(0, .ref 999), (1, .ref 0), (2, .ref 3), (3, .ref 36), (4, .int v4)] [] (lay M) (k0 + 5) (n0 + 30)) (v4 : Int32) (M : Me) (hyp : L_law_c811 xs L rec23 v4 M = some r) : ab_V (ab_kl l D B b L xs) ad 811 [(0, .ref 999), (1, .ref 0), (2, .ref 3), (3, .ref 36), (4, .int v4)] [] (lay M) k0 n0 := by
  unfold L_law_c811 at hyp
  refine ab_aload_n 812 d_L_law_811 rfl ?_
  obtain ⟨r2, hc1, hyp⟩ := ab_bind hyp
  refine ab_callV (h' := lay M) (hf := ⟨nbC (a := k0) (by omega), nbS (a := n0) (by omega)⟩) 815 k0 n0 [] [.long r2] d_L_law_812 ok_H_herd ll_19 (c_H_herd hc1) rfl rfl ?_
  refine ab_aload_n 816 d_L_law_815 rfl ?_
  obtain ⟨r4, hc3, hyp⟩ := ab_bind hyp
  refine ab_callV (h' := lay r4.2) (hf := ⟨nbC (a := k0) (by omega), nbS (a := n0) (by omega)⟩) 819 k0 n0 [.long r2] [.long r4.1, .long r2] d_L_law_816 ok_M_herd ll_20 (c_M_herd hc3) rfl rfl ?_
  refine ab_lc_eq 1366 820 823 d_L_law_819 d_L_law_820 (fun z5 => ?_) (fun z5 => ?_)
  · replace hyp := ab_pos z5 hyp
    refine ab_iinc 1369 [(4, _), (0, _), (1, _), (2, _), (3, _)] d_L_law_1366 (5 : Int32) (by decide) rfl rfl ?_
    refine ab_goto 23 d_L_law_1369 ?_
    refine ab_wide (k' := k0 + 5) (n' := n0 + 30) (by omega) (by omega) ?_
    refine ab_pick [1, 2, 3, 4, 0] [(0, _), (1, _), (2, _), (3, _), (4, _)] rfl ?_
    exact hrec23 (v4 + (5 : Int32)) r4.2 hyp
  · replace hyp := ab_neg z5 hyp
    refine ab_iconst 824 d_L_law_823 (0 : Int32) (by decide) ?_
    cases hyp
    exact absurd (show (0 : Int32) = 1 from hr) (by decide)
theorem q_L_law_c756 {l : Launch} {D : va_G} {B b : Nat} {ad : Nat → Nat} {k0 n0 : Nat} (hk : k0 + 5 ≤ 601024) (hn : n0 + 30 ≤ 7293034) {r : Int32 × Me} (hr : r.1 = 1) (xs : Nat → Int32) (L : Nat) (rec23 : Int32 → Me → Option (Int32 × Me)) (hrec23 : ∀ (v4 : Int32) (M : Me), rec23 v4 M = some r → ab_V (ab_kl l D B b L xs) ad 23 [(0, .ref 999), (1, .ref 0), (2, .ref 3), (3, .ref 36), (4, .int v4)] [] (lay M) (k0 + 5) (n0 + 30)) (v4 : Int32) (M : Me) (hyp : L_law_c756 xs L rec23 v4 M = some r) : ab_V (ab_kl l D B b L xs) ad 756 [(0, .ref 999), (1, .ref 0), (2, .ref 3), (3, .ref 36), (4, .int v4)] [] (lay M) k0 n0 := by
  unfold L_law_c756 at hyp
  refine ab_aload_n 757 d_L_law_756 rfl ?_
  refine ab_aload_n 758 d_L_law_757 rfl ?_
  refine ab_iload 760 d_L_law_758 rfl ?_
  refine ab_iconst 761 d_L_law_760 (1 : Int32) (by decide) ?_
  refine ab_iadd 762 d_L_law_761 ?_
  obtain ⟨g1, hyp⟩ := ab_gd hyp
  refine ab_sld 763 d_L_law_762 g1 ?_
  refine ab_aload_n 764 d_L_law_763 rfl ?_
  obtain ⟨r3, hc2, hyp⟩ := ab_bind hyp
  refine ab_callS (h' := lay r3.2) (hf := ⟨nbC (a := (k0 + 2)) (by omega), nbS (a := (n0 + 12)) (by omega)⟩) 767 (k0 + 2) (n0 + 12) [] [.int r3.1] d_L_law_764 ok_L_inHerd ll_21 (c_L_inHerd hc2) rfl ?_
  refine ab_istore 769 [(5, _), (0, _), (1, _), (2, _), (3, _), (4, _)] d_L_law_767 rfl ?_
  refine ab_aload_n 770 d_L_law_769 rfl ?_
  refine ab_aload_n 771 d_L_law_770 rfl ?_
  refine ab_iload 773 d_L_law_771 rfl ?_
  refine ab_iconst 774 d_L_law_773 (1 : Int32) (by decide) ?_
  refine ab_iadd 775 d_L_law_774 ?_
  obtain ⟨g4, hyp⟩ := ab_gd hyp
  refine ab_sld 776 d_L_law_775 g4 ?_
  obtain ⟨r6, hc5, hyp⟩ := ab_bind hyp
  refine ab_callV (h' := lay r6.2) (hf := ⟨nbC (a := (k0 + 2)) (by omega), nbS (a := (n0 + 12)) (by omega)⟩) 779 (k0 + 2) (n0 + 12) [] [.long r6.1] d_L_law_776 ok_M_inHerd ll_22 (c_M_inHerd hc5) rfl rfl ?_
  refine ab_lstore 781 [(6, _), (5, _), (0, _), (1, _), (2, _), (3, _), (4, _)] d_L_law_779 rfl ?_
  refine ab_aload_n 782 d_L_law_781 rfl ?_
  obtain ⟨r8, hc7, hyp⟩ := ab_bind hyp
  refine ab_callV (h' := lay r6.2) (hf := ⟨nbC (a := (k0 + 2)) (by omega), nbS (a := (n0 + 12)) (by omega)⟩) 785 (k0 + 2) (n0 + 12) [] [.int r8] d_L_law_782 ok_M_thrown ll_4 (c_M_thrown hc7) rfl rfl ?_
  refine ab_iload 787 d_L_law_785 rfl ?_
  refine ab_ic_eq 792 790 d_L_law_787 (fun z9 => ?_) (fun z9 => ?_)
  · replace hyp := ab_pos z9 hyp
    refine ab_iload 794 d_L_law_792 rfl ?_
    refine ab_if_ne 808 797 d_L_law_794 (fun z10 => ?_) (fun z10 => ?_)
    · replace hyp := ab_neg z10 hyp
      refine ab_goto 1366 d_L_law_808 ?_
      refine ab_iinc 1369 [(4, _), (6, _), (5, _), (0, _), (1, _), (2, _), (3, _)] d_L_law_1366 (5 : Int32) (by decide) rfl rfl ?_
      refine ab_goto 23 d_L_law_1369 ?_
      refine ab_wide (k' := k0 + 5) (n' := n0 + 30) (by omega) (by omega) ?_
      refine ab_pick [3, 4, 5, 6, 0] [(0, _), (1, _), (2, _), (3, _), (4, _)] rfl ?_
      exact hrec23 (v4 + (5 : Int32)) r6.2 hyp
    · replace hyp := ab_pos z10 hyp
      refine ab_aload_n 798 d_L_law_797 rfl ?_
      refine ab_iconst 799 d_L_law_798 (0 : Int32) (by decide) ?_
      obtain ⟨g11, hyp⟩ := ab_gd hyp
      refine ab_lld 7 1 800 d_L_law_799 rfl g11 ?_
      refine ab_lload 802 d_L_law_800 rfl ?_
      refine ab_lc_eq 808 803 806 d_L_law_802 d_L_law_803 (fun z12 => ?_) (fun z12 => ?_)
      · replace hyp := ab_pos z12 hyp
        refine ab_goto 1366 d_L_law_808 ?_
        refine ab_iinc 1369 [(4, _), (6, _), (5, _), (0, _), (1, _), (2, _), (3, _)] d_L_law_1366 (5 : Int32) (by decide) rfl rfl ?_
        refine ab_goto 23 d_L_law_1369 ?_
        refine ab_wide (k' := k0 + 5) (n' := n0 + 30) (by omega) (by omega) ?_
        refine ab_pick [3, 4, 5, 6, 0] [(0, _), (1, _), (2, _), (3, _), (4, _)] rfl ?_
        exact hrec23 (v4 + (5 : Int32)) r6.2 hyp
      · replace hyp := ab_neg z12 hyp
        refine ab_iconst 807 d_L_law_806 (0 : Int32) (by decide) ?_
        cases hyp
        exact absurd (show (0 : Int32) = 1 from hr) (by decide)
  · replace hyp := ab_neg z9 hyp
    refine ab_iconst 791 d_L_law_790 (0 : Int32) (by decide) ?_
    cases hyp
    exact absurd (show (0 : Int32) = 1 from hr) (by decide)
theorem q_L_law_c701 {l : Launch} {D : va_G} {B b : Nat} {ad : Nat → Nat} {k0 n0 : Nat} (hk : k0 + 5 ≤ 601024) (hn : n0 + 30 ≤ 7293034) {r : Int32 × Me} (hr : r.1 = 1) (xs : Nat → Int32) (L : Nat) (rec23 : Int32 → Me → Option (Int32 × Me)) (hrec23 : ∀ (v4 : Int32) (M : Me), rec23 v4 M = some r → ab_V (ab_kl l D B b L xs) ad 23 [(0, .ref 999), (1, .ref 0), (2, .ref 3), (3, .ref 36), (4, .int v4)] [] (lay M) (k0 + 5) (n0 + 30)) (v4 : Int32) (M : Me) (hyp : L_law_c701 xs L rec23 v4 M = some r) : ab_V (ab_kl l D B b L xs) ad 701 [(0, .ref 999), (1, .ref 0), (2, .ref 3), (3, .ref 36), (4, .int v4)] [] (lay M) k0 n0 := by
  unfold L_law_c701 at hyp
  refine ab_aload_n 702 d_L_law_701 rfl ?_
  refine ab_aload_n 703 d_L_law_702 rfl ?_
  refine ab_iload 705 d_L_law_703 rfl ?_
  refine ab_iconst 706 d_L_law_705 (1 : Int32) (by decide) ?_
  refine ab_iadd 707 d_L_law_706 ?_
  obtain ⟨g1, hyp⟩ := ab_gd hyp
  refine ab_sld 708 d_L_law_707 g1 ?_
  refine ab_aload_n 709 d_L_law_708 rfl ?_
  obtain ⟨r3, hc2, hyp⟩ := ab_bind hyp
  refine ab_callS (h' := lay r3.2) (hf := ⟨nbC (a := (k0 + 1)) (by omega), nbS (a := (n0 + 6)) (by omega)⟩) 712 (k0 + 1) (n0 + 6) [] [.int r3.1] d_L_law_709 ok_L_unknown ll_23 (c_L_unknown hc2) rfl ?_
  refine ab_istore 714 [(5, _), (0, _), (1, _), (2, _), (3, _), (4, _)] d_L_law_712 rfl ?_
  refine ab_aload_n 715 d_L_law_714 rfl ?_
  refine ab_aload_n 716 d_L_law_715 rfl ?_
  refine ab_iload 718 d_L_law_716 rfl ?_
  refine ab_iconst 719 d_L_law_718 (1 : Int32) (by decide) ?_
  refine ab_iadd 720 d_L_law_719 ?_
  obtain ⟨g4, hyp⟩ := ab_gd hyp
  refine ab_sld 721 d_L_law_720 g4 ?_
  obtain ⟨r6, hc5, hyp⟩ := ab_bind hyp
  refine ab_callV (h' := lay r6.2) (hf := ⟨nbC (a := (k0 + 1)) (by omega), nbS (a := (n0 + 6)) (by omega)⟩) 724 (k0 + 1) (n0 + 6) [] [.long r6.1] d_L_law_721 ok_M_unknown ll_24 (c_M_unknown hc5) rfl rfl ?_
  refine ab_lstore 726 [(6, _), (5, _), (0, _), (1, _), (2, _), (3, _), (4, _)] d_L_law_724 rfl ?_
  refine ab_aload_n 727 d_L_law_726 rfl ?_
  obtain ⟨r8, hc7, hyp⟩ := ab_bind hyp
  refine ab_callV (h' := lay r6.2) (hf := ⟨nbC (a := (k0 + 1)) (by omega), nbS (a := (n0 + 6)) (by omega)⟩) 730 (k0 + 1) (n0 + 6) [] [.int r8] d_L_law_727 ok_M_thrown ll_4 (c_M_thrown hc7) rfl rfl ?_
  refine ab_iload 732 d_L_law_730 rfl ?_
  refine ab_ic_eq 737 735 d_L_law_732 (fun z9 => ?_) (fun z9 => ?_)
  · replace hyp := ab_pos z9 hyp
    refine ab_iload 739 d_L_law_737 rfl ?_
    refine ab_if_ne 753 742 d_L_law_739 (fun z10 => ?_) (fun z10 => ?_)
    · replace hyp := ab_neg z10 hyp
      refine ab_goto 1366 d_L_law_753 ?_
      refine ab_iinc 1369 [(4, _), (6, _), (5, _), (0, _), (1, _), (2, _), (3, _)] d_L_law_1366 (5 : Int32) (by decide) rfl rfl ?_
      refine ab_goto 23 d_L_law_1369 ?_
      refine ab_wide (k' := k0 + 5) (n' := n0 + 30) (by omega) (by omega) ?_
      refine ab_pick [3, 4, 5, 6, 0] [(0, _), (1, _), (2, _), (3, _), (4, _)] rfl ?_
      exact hrec23 (v4 + (5 : Int32)) r6.2 hyp
    · replace hyp := ab_pos z10 hyp
      refine ab_aload_n 743 d_L_law_742 rfl ?_
      refine ab_iconst 744 d_L_law_743 (0 : Int32) (by decide) ?_
      obtain ⟨g11, hyp⟩ := ab_gd hyp
      refine ab_lld 7 1 745 d_L_law_744 rfl g11 ?_
      refine ab_lload 747 d_L_law_745 rfl ?_
      refine ab_lc_eq 753 748 751 d_L_law_747 d_L_law_748 (fun z12 => ?_) (fun z12 => ?_)
      · replace hyp := ab_pos z12 hyp
        refine ab_goto 1366 d_L_law_753 ?_
        refine ab_iinc 1369 [(4, _), (6, _), (5, _), (0, _), (1, _), (2, _), (3, _)] d_L_law_1366 (5 : Int32) (by decide) rfl rfl ?_
        refine ab_goto 23 d_L_law_1369 ?_
        refine ab_wide (k' := k0 + 5) (n' := n0 + 30) (by omega) (by omega) ?_
        refine ab_pick [3, 4, 5, 6, 0] [(0, _), (1, _), (2, _), (3, _), (4, _)] rfl ?_
        exact hrec23 (v4 + (5 : Int32)) r6.2 hyp
      · replace hyp := ab_neg z12 hyp
        refine ab_iconst 752 d_L_law_751 (0 : Int32) (by decide) ?_
        cases hyp
        exact absurd (show (0 : Int32) = 1 from hr) (by decide)
  · replace hyp := ab_neg z9 hyp
    refine ab_iconst 736 d_L_law_735 (0 : Int32) (by decide) ?_
    cases hyp
    exact absurd (show (0 : Int32) = 1 from hr) (by decide)
theorem q_L_law_c634 {l : Launch} {D : va_G} {B b : Nat} {ad : Nat → Nat} {k0 n0 : Nat} (hk : k0 + 5 ≤ 601024) (hn : n0 + 30 ≤ 7293034) {r : Int32 × Me} (hr : r.1 = 1) (xs : Nat → Int32) (L : Nat) (rec23 : Int32 → Me → Option (Int32 × Me)) (hrec23 : ∀ (v4 : Int32) (M : Me), rec23 v4 M = some r → ab_V (ab_kl l D B b L xs) ad 23 [(0, .ref 999), (1, .ref 0), (2, .ref 3), (3, .ref 36), (4, .int v4)] [] (lay M) (k0 + 5) (n0 + 30)) (v4 : Int32) (M : Me) (hyp : L_law_c634 xs L rec23 v4 M = some r) : ab_V (ab_kl l D B b L xs) ad 634 [(0, .ref 999), (1, .ref 0), (2, .ref 3), (3, .ref 36), (4, .int v4)] [] (lay M) k0 n0 := by
  unfold L_law_c634 at hyp
  refine ab_aload_n 635 d_L_law_634 rfl ?_
  refine ab_aload_n 636 d_L_law_635 rfl ?_
  refine ab_iload 638 d_L_law_636 rfl ?_
  refine ab_iconst 639 d_L_law_638 (1 : Int32) (by decide) ?_
  refine ab_iadd 640 d_L_law_639 ?_
  obtain ⟨g1, hyp⟩ := ab_gd hyp
  refine ab_sld 641 d_L_law_640 g1 ?_
  refine ab_aload_n 642 d_L_law_641 rfl ?_
  refine ab_iload 644 d_L_law_642 rfl ?_
  refine ab_iconst 645 d_L_law_644 (2 : Int32) (by decide) ?_
  refine ab_iadd 646 d_L_law_645 ?_
  obtain ⟨g2, hyp⟩ := ab_gd hyp
  refine ab_sld 647 d_L_law_646 g2 ?_
  refine ab_aload_n 648 d_L_law_647 rfl ?_
  obtain ⟨r4, hc3, hyp⟩ := ab_bind hyp
  refine ab_callS (h' := lay r4.2) (hf := ⟨nbC (a := (k0 + 3)) (by omega), nbS (a := (n0 + 18)) (by omega)⟩) 651 (k0 + 3) (n0 + 18) [] [.int r4.1] d_L_law_648 ok_L_share ll_25 (c_L_share hc3) rfl ?_
  refine ab_istore 653 [(5, _), (0, _), (1, _), (2, _), (3, _), (4, _)] d_L_law_651 rfl ?_
  refine ab_aload_n 654 d_L_law_653 rfl ?_
  refine ab_aload_n 655 d_L_law_654 rfl ?_
  refine ab_iload 657 d_L_law_655 rfl ?_
  refine ab_iconst 658 d_L_law_657 (1 : Int32) (by decide) ?_
  refine ab_iadd 659 d_L_law_658 ?_
  obtain ⟨g5, hyp⟩ := ab_gd hyp
  refine ab_sld 660 d_L_law_659 g5 ?_
  refine ab_aload_n 661 d_L_law_660 rfl ?_
  refine ab_iload 663 d_L_law_661 rfl ?_
  refine ab_iconst 664 d_L_law_663 (2 : Int32) (by decide) ?_
  refine ab_iadd 665 d_L_law_664 ?_
  obtain ⟨g6, hyp⟩ := ab_gd hyp
  refine ab_sld 666 d_L_law_665 g6 ?_
  obtain ⟨r8, hc7, hyp⟩ := ab_bind hyp
  refine ab_callV (h' := lay r8.2) (hf := ⟨nbC (a := (k0 + 3)) (by omega), nbS (a := (n0 + 18)) (by omega)⟩) 669 (k0 + 3) (n0 + 18) [] [.long r8.1] d_L_law_666 ok_M_share ll_26 (c_M_share hc7) rfl rfl ?_
  refine ab_lstore 671 [(6, _), (5, _), (0, _), (1, _), (2, _), (3, _), (4, _)] d_L_law_669 rfl ?_
  refine ab_aload_n 672 d_L_law_671 rfl ?_
  obtain ⟨r10, hc9, hyp⟩ := ab_bind hyp
  refine ab_callV (h' := lay r8.2) (hf := ⟨nbC (a := (k0 + 3)) (by omega), nbS (a := (n0 + 18)) (by omega)⟩) 675 (k0 + 3) (n0 + 18) [] [.int r10] d_L_law_672 ok_M_thrown ll_4 (c_M_thrown hc9) rfl rfl ?_
  refine ab_iload 677 d_L_law_675 rfl ?_
  refine ab_ic_eq 682 680 d_L_law_677 (fun z11 => ?_) (fun z11 => ?_)
  · replace hyp := ab_pos z11 hyp
    refine ab_iload 684 d_L_law_682 rfl ?_
    refine ab_if_ne 698 687 d_L_law_684 (fun z12 => ?_) (fun z12 => ?_)
    · replace hyp := ab_neg z12 hyp
      refine ab_goto 1366 d_L_law_698 ?_
      refine ab_iinc 1369 [(4, _), (6, _), (5, _), (0, _), (1, _), (2, _), (3, _)] d_L_law_1366 (5 : Int32) (by decide) rfl rfl ?_
      refine ab_goto 23 d_L_law_1369 ?_
      refine ab_wide (k' := k0 + 5) (n' := n0 + 30) (by omega) (by omega) ?_
      refine ab_pick [3, 4, 5, 6, 0] [(0, _), (1, _), (2, _), (3, _), (4, _)] rfl ?_
      exact hrec23 (v4 + (5 : Int32)) r8.2 hyp
    · replace hyp := ab_pos z12 hyp
      refine ab_aload_n 688 d_L_law_687 rfl ?_
      refine ab_iconst 689 d_L_law_688 (0 : Int32) (by decide) ?_
      obtain ⟨g13, hyp⟩ := ab_gd hyp
      refine ab_lld 7 1 690 d_L_law_689 rfl g13 ?_
      refine ab_lload 692 d_L_law_690 rfl ?_
      refine ab_lc_eq 698 693 696 d_L_law_692 d_L_law_693 (fun z14 => ?_) (fun z14 => ?_)
      · replace hyp := ab_pos z14 hyp
        refine ab_goto 1366 d_L_law_698 ?_
        refine ab_iinc 1369 [(4, _), (6, _), (5, _), (0, _), (1, _), (2, _), (3, _)] d_L_law_1366 (5 : Int32) (by decide) rfl rfl ?_
        refine ab_goto 23 d_L_law_1369 ?_
        refine ab_wide (k' := k0 + 5) (n' := n0 + 30) (by omega) (by omega) ?_
        refine ab_pick [3, 4, 5, 6, 0] [(0, _), (1, _), (2, _), (3, _), (4, _)] rfl ?_
        exact hrec23 (v4 + (5 : Int32)) r8.2 hyp
      · replace hyp := ab_neg z14 hyp
        refine ab_iconst 697 d_L_law_696 (0 : Int32) (by decide) ?_
        cases hyp
        exact absurd (show (0 : Int32) = 1 from hr) (by decide)
  · replace hyp := ab_neg z11 hyp
    refine ab_iconst 681 d_L_law_680 (0 : Int32) (by decide) ?_
    cases hyp
    exact absurd (show (0 : Int32) = 1 from hr) (by decide)
theorem q_L_law_c567 {l : Launch} {D : va_G} {B b : Nat} {ad : Nat → Nat} {k0 n0 : Nat} (hk : k0 + 5 ≤ 601024) (hn : n0 + 30 ≤ 7293034) {r : Int32 × Me} (hr : r.1 = 1) (xs : Nat → Int32) (L : Nat) (rec23 : Int32 → Me → Option (Int32 × Me)) (hrec23 : ∀ (v4 : Int32) (M : Me), rec23 v4 M = some r → ab_V (ab_kl l D B b L xs) ad 23 [(0, .ref 999), (1, .ref 0), (2, .ref 3), (3, .ref 36), (4, .int v4)] [] (lay M) (k0 + 5) (n0 + 30)) (v4 : Int32) (M : Me) (hyp : L_law_c567 xs L rec23 v4 M = some r) : ab_V (ab_kl l D B b L xs) ad 567 [(0, .ref 999), (1, .ref 0), (2, .ref 3), (3, .ref 36), (4, .int v4)] [] (lay M) k0 n0 := by
  unfold L_law_c567 at hyp
  refine ab_aload_n 568 d_L_law_567 rfl ?_
  refine ab_aload_n 569 d_L_law_568 rfl ?_
  refine ab_iload 571 d_L_law_569 rfl ?_
  refine ab_iconst 572 d_L_law_571 (1 : Int32) (by decide) ?_
  refine ab_iadd 573 d_L_law_572 ?_
  obtain ⟨g1, hyp⟩ := ab_gd hyp
  refine ab_sld 574 d_L_law_573 g1 ?_
  refine ab_aload_n 575 d_L_law_574 rfl ?_
  refine ab_iload 577 d_L_law_575 rfl ?_
  refine ab_iconst 578 d_L_law_577 (2 : Int32) (by decide) ?_
  refine ab_iadd 579 d_L_law_578 ?_
  obtain ⟨g2, hyp⟩ := ab_gd hyp
  refine ab_sld 580 d_L_law_579 g2 ?_
  refine ab_aload_n 581 d_L_law_580 rfl ?_
  obtain ⟨r4, hc3, hyp⟩ := ab_bind hyp
  refine ab_callS (h' := lay r4.2) (hf := ⟨nbC (a := (k0 + 2)) (by omega), nbS (a := (n0 + 12)) (by omega)⟩) 584 (k0 + 2) (n0 + 12) [] [.int r4.1] d_L_law_581 ok_L_calf ll_27 (c_L_calf hc3) rfl ?_
  refine ab_istore 586 [(5, _), (0, _), (1, _), (2, _), (3, _), (4, _)] d_L_law_584 rfl ?_
  refine ab_aload_n 587 d_L_law_586 rfl ?_
  refine ab_aload_n 588 d_L_law_587 rfl ?_
  refine ab_iload 590 d_L_law_588 rfl ?_
  refine ab_iconst 591 d_L_law_590 (1 : Int32) (by decide) ?_
  refine ab_iadd 592 d_L_law_591 ?_
  obtain ⟨g5, hyp⟩ := ab_gd hyp
  refine ab_sld 593 d_L_law_592 g5 ?_
  refine ab_aload_n 594 d_L_law_593 rfl ?_
  refine ab_iload 596 d_L_law_594 rfl ?_
  refine ab_iconst 597 d_L_law_596 (2 : Int32) (by decide) ?_
  refine ab_iadd 598 d_L_law_597 ?_
  obtain ⟨g6, hyp⟩ := ab_gd hyp
  refine ab_sld 599 d_L_law_598 g6 ?_
  obtain ⟨r8, hc7, hyp⟩ := ab_bind hyp
  refine ab_callV (h' := lay r8.2) (hf := ⟨nbC (a := (k0 + 2)) (by omega), nbS (a := (n0 + 12)) (by omega)⟩) 602 (k0 + 2) (n0 + 12) [] [.long r8.1] d_L_law_599 ok_M_calf ll_28 (c_M_calf hc7) rfl rfl ?_
  refine ab_lstore 604 [(6, _), (5, _), (0, _), (1, _), (2, _), (3, _), (4, _)] d_L_law_602 rfl ?_
  refine ab_aload_n 605 d_L_law_604 rfl ?_
  obtain ⟨r10, hc9, hyp⟩ := ab_bind hyp
  refine ab_callV (h' := lay r8.2) (hf := ⟨nbC (a := (k0 + 2)) (by omega), nbS (a := (n0 + 12)) (by omega)⟩) 608 (k0 + 2) (n0 + 12) [] [.int r10] d_L_law_605 ok_M_thrown ll_4 (c_M_thrown hc9) rfl rfl ?_
  refine ab_iload 610 d_L_law_608 rfl ?_
  refine ab_ic_eq 615 613 d_L_law_610 (fun z11 => ?_) (fun z11 => ?_)
  · replace hyp := ab_pos z11 hyp
    refine ab_iload 617 d_L_law_615 rfl ?_
    refine ab_if_ne 631 620 d_L_law_617 (fun z12 => ?_) (fun z12 => ?_)
    · replace hyp := ab_neg z12 hyp
      refine ab_goto 1366 d_L_law_631 ?_
      refine ab_iinc 1369 [(4, _), (6, _), (5, _), (0, _), (1, _), (2, _), (3, _)] d_L_law_1366 (5 : Int32) (by decide) rfl rfl ?_
      refine ab_goto 23 d_L_law_1369 ?_
      refine ab_wide (k' := k0 + 5) (n' := n0 + 30) (by omega) (by omega) ?_
      refine ab_pick [3, 4, 5, 6, 0] [(0, _), (1, _), (2, _), (3, _), (4, _)] rfl ?_
      exact hrec23 (v4 + (5 : Int32)) r8.2 hyp
    · replace hyp := ab_pos z12 hyp
      refine ab_aload_n 621 d_L_law_620 rfl ?_
      refine ab_iconst 622 d_L_law_621 (0 : Int32) (by decide) ?_
      obtain ⟨g13, hyp⟩ := ab_gd hyp
      refine ab_lld 7 1 623 d_L_law_622 rfl g13 ?_
      refine ab_lload 625 d_L_law_623 rfl ?_
      refine ab_lc_eq 631 626 629 d_L_law_625 d_L_law_626 (fun z14 => ?_) (fun z14 => ?_)
      · replace hyp := ab_pos z14 hyp
        refine ab_goto 1366 d_L_law_631 ?_
        refine ab_iinc 1369 [(4, _), (6, _), (5, _), (0, _), (1, _), (2, _), (3, _)] d_L_law_1366 (5 : Int32) (by decide) rfl rfl ?_
        refine ab_goto 23 d_L_law_1369 ?_
        refine ab_wide (k' := k0 + 5) (n' := n0 + 30) (by omega) (by omega) ?_
        refine ab_pick [3, 4, 5, 6, 0] [(0, _), (1, _), (2, _), (3, _), (4, _)] rfl ?_
        exact hrec23 (v4 + (5 : Int32)) r8.2 hyp
      · replace hyp := ab_neg z14 hyp
        refine ab_iconst 630 d_L_law_629 (0 : Int32) (by decide) ?_
        cases hyp
        exact absurd (show (0 : Int32) = 1 from hr) (by decide)
  · replace hyp := ab_neg z11 hyp
    refine ab_iconst 614 d_L_law_613 (0 : Int32) (by decide) ?_
    cases hyp
    exact absurd (show (0 : Int32) = 1 from hr) (by decide)
theorem q_L_law_c512 {l : Launch} {D : va_G} {B b : Nat} {ad : Nat → Nat} {k0 n0 : Nat} (hk : k0 + 5 ≤ 601024) (hn : n0 + 30 ≤ 7293034) {r : Int32 × Me} (hr : r.1 = 1) (xs : Nat → Int32) (L : Nat) (rec23 : Int32 → Me → Option (Int32 × Me)) (hrec23 : ∀ (v4 : Int32) (M : Me), rec23 v4 M = some r → ab_V (ab_kl l D B b L xs) ad 23 [(0, .ref 999), (1, .ref 0), (2, .ref 3), (3, .ref 36), (4, .int v4)] [] (lay M) (k0 + 5) (n0 + 30)) (v4 : Int32) (M : Me) (hyp : L_law_c512 xs L rec23 v4 M = some r) : ab_V (ab_kl l D B b L xs) ad 512 [(0, .ref 999), (1, .ref 0), (2, .ref 3), (3, .ref 36), (4, .int v4)] [] (lay M) k0 n0 := by
  unfold L_law_c512 at hyp
  refine ab_aload_n 513 d_L_law_512 rfl ?_
  refine ab_aload_n 514 d_L_law_513 rfl ?_
  refine ab_iload 516 d_L_law_514 rfl ?_
  refine ab_iconst 517 d_L_law_516 (1 : Int32) (by decide) ?_
  refine ab_iadd 518 d_L_law_517 ?_
  obtain ⟨g1, hyp⟩ := ab_gd hyp
  refine ab_sld 519 d_L_law_518 g1 ?_
  refine ab_aload_n 520 d_L_law_519 rfl ?_
  obtain ⟨r3, hc2, hyp⟩ := ab_bind hyp
  refine ab_callS (h' := lay r3.2) (hf := ⟨nbC (a := (k0 + 1)) (by omega), nbS (a := (n0 + 6)) (by omega)⟩) 523 (k0 + 1) (n0 + 6) [] [.int r3.1] d_L_law_520 ok_L_inbreeding ll_29 (c_L_inbreeding hc2) rfl ?_
  refine ab_istore 525 [(5, _), (0, _), (1, _), (2, _), (3, _), (4, _)] d_L_law_523 rfl ?_
  refine ab_aload_n 526 d_L_law_525 rfl ?_
  refine ab_aload_n 527 d_L_law_526 rfl ?_
  refine ab_iload 529 d_L_law_527 rfl ?_
  refine ab_iconst 530 d_L_law_529 (1 : Int32) (by decide) ?_
  refine ab_iadd 531 d_L_law_530 ?_
  obtain ⟨g4, hyp⟩ := ab_gd hyp
  refine ab_sld 532 d_L_law_531 g4 ?_
  obtain ⟨r6, hc5, hyp⟩ := ab_bind hyp
  refine ab_callV (h' := lay r6.2) (hf := ⟨nbC (a := (k0 + 1)) (by omega), nbS (a := (n0 + 6)) (by omega)⟩) 535 (k0 + 1) (n0 + 6) [] [.long r6.1] d_L_law_532 ok_M_inbreeding ll_30 (c_M_inbreeding hc5) rfl rfl ?_
  refine ab_lstore 537 [(6, _), (5, _), (0, _), (1, _), (2, _), (3, _), (4, _)] d_L_law_535 rfl ?_
  refine ab_aload_n 538 d_L_law_537 rfl ?_
  obtain ⟨r8, hc7, hyp⟩ := ab_bind hyp
  refine ab_callV (h' := lay r6.2) (hf := ⟨nbC (a := (k0 + 1)) (by omega), nbS (a := (n0 + 6)) (by omega)⟩) 541 (k0 + 1) (n0 + 6) [] [.int r8] d_L_law_538 ok_M_thrown ll_4 (c_M_thrown hc7) rfl rfl ?_
  refine ab_iload 543 d_L_law_541 rfl ?_
  refine ab_ic_eq 548 546 d_L_law_543 (fun z9 => ?_) (fun z9 => ?_)
  · replace hyp := ab_pos z9 hyp
    refine ab_iload 550 d_L_law_548 rfl ?_
    refine ab_if_ne 564 553 d_L_law_550 (fun z10 => ?_) (fun z10 => ?_)
    · replace hyp := ab_neg z10 hyp
      refine ab_goto 1366 d_L_law_564 ?_
      refine ab_iinc 1369 [(4, _), (6, _), (5, _), (0, _), (1, _), (2, _), (3, _)] d_L_law_1366 (5 : Int32) (by decide) rfl rfl ?_
      refine ab_goto 23 d_L_law_1369 ?_
      refine ab_wide (k' := k0 + 5) (n' := n0 + 30) (by omega) (by omega) ?_
      refine ab_pick [3, 4, 5, 6, 0] [(0, _), (1, _), (2, _), (3, _), (4, _)] rfl ?_
      exact hrec23 (v4 + (5 : Int32)) r6.2 hyp
    · replace hyp := ab_pos z10 hyp
      refine ab_aload_n 554 d_L_law_553 rfl ?_
      refine ab_iconst 555 d_L_law_554 (0 : Int32) (by decide) ?_
      obtain ⟨g11, hyp⟩ := ab_gd hyp
      refine ab_lld 7 1 556 d_L_law_555 rfl g11 ?_
      refine ab_lload 558 d_L_law_556 rfl ?_
      refine ab_lc_eq 564 559 562 d_L_law_558 d_L_law_559 (fun z12 => ?_) (fun z12 => ?_)
      · replace hyp := ab_pos z12 hyp
        refine ab_goto 1366 d_L_law_564 ?_
        refine ab_iinc 1369 [(4, _), (6, _), (5, _), (0, _), (1, _), (2, _), (3, _)] d_L_law_1366 (5 : Int32) (by decide) rfl rfl ?_
        refine ab_goto 23 d_L_law_1369 ?_
        refine ab_wide (k' := k0 + 5) (n' := n0 + 30) (by omega) (by omega) ?_
        refine ab_pick [3, 4, 5, 6, 0] [(0, _), (1, _), (2, _), (3, _), (4, _)] rfl ?_
        exact hrec23 (v4 + (5 : Int32)) r6.2 hyp
      · replace hyp := ab_neg z12 hyp
        refine ab_iconst 563 d_L_law_562 (0 : Int32) (by decide) ?_
        cases hyp
        exact absurd (show (0 : Int32) = 1 from hr) (by decide)
  · replace hyp := ab_neg z9 hyp
    refine ab_iconst 547 d_L_law_546 (0 : Int32) (by decide) ?_
    cases hyp
    exact absurd (show (0 : Int32) = 1 from hr) (by decide)
theorem q_L_law_c445 {l : Launch} {D : va_G} {B b : Nat} {ad : Nat → Nat} {k0 n0 : Nat} (hk : k0 + 5 ≤ 601024) (hn : n0 + 30 ≤ 7293034) {r : Int32 × Me} (hr : r.1 = 1) (xs : Nat → Int32) (L : Nat) (rec23 : Int32 → Me → Option (Int32 × Me)) (hrec23 : ∀ (v4 : Int32) (M : Me), rec23 v4 M = some r → ab_V (ab_kl l D B b L xs) ad 23 [(0, .ref 999), (1, .ref 0), (2, .ref 3), (3, .ref 36), (4, .int v4)] [] (lay M) (k0 + 5) (n0 + 30)) (v4 : Int32) (M : Me) (hyp : L_law_c445 xs L rec23 v4 M = some r) : ab_V (ab_kl l D B b L xs) ad 445 [(0, .ref 999), (1, .ref 0), (2, .ref 3), (3, .ref 36), (4, .int v4)] [] (lay M) k0 n0 := by
  unfold L_law_c445 at hyp
  refine ab_aload_n 446 d_L_law_445 rfl ?_
  refine ab_aload_n 447 d_L_law_446 rfl ?_
  refine ab_iload 449 d_L_law_447 rfl ?_
  refine ab_iconst 450 d_L_law_449 (1 : Int32) (by decide) ?_
  refine ab_iadd 451 d_L_law_450 ?_
  obtain ⟨g1, hyp⟩ := ab_gd hyp
  refine ab_sld 452 d_L_law_451 g1 ?_
  refine ab_aload_n 453 d_L_law_452 rfl ?_
  refine ab_iload 455 d_L_law_453 rfl ?_
  refine ab_iconst 456 d_L_law_455 (2 : Int32) (by decide) ?_
  refine ab_iadd 457 d_L_law_456 ?_
  obtain ⟨g2, hyp⟩ := ab_gd hyp
  refine ab_sld 458 d_L_law_457 g2 ?_
  refine ab_aload_n 459 d_L_law_458 rfl ?_
  obtain ⟨r4, hc3, hyp⟩ := ab_bind hyp
  refine ab_callS (h' := lay r4.2) (hf := ⟨nbC (a := (k0 + 2)) (by omega), nbS (a := (n0 + 12)) (by omega)⟩) 462 (k0 + 2) (n0 + 12) [] [.int r4.1] d_L_law_459 ok_L_kinship ll_31 (c_L_kinship hc3) rfl ?_
  refine ab_istore 464 [(5, _), (0, _), (1, _), (2, _), (3, _), (4, _)] d_L_law_462 rfl ?_
  refine ab_aload_n 465 d_L_law_464 rfl ?_
  refine ab_aload_n 466 d_L_law_465 rfl ?_
  refine ab_iload 468 d_L_law_466 rfl ?_
  refine ab_iconst 469 d_L_law_468 (1 : Int32) (by decide) ?_
  refine ab_iadd 470 d_L_law_469 ?_
  obtain ⟨g5, hyp⟩ := ab_gd hyp
  refine ab_sld 471 d_L_law_470 g5 ?_
  refine ab_aload_n 472 d_L_law_471 rfl ?_
  refine ab_iload 474 d_L_law_472 rfl ?_
  refine ab_iconst 475 d_L_law_474 (2 : Int32) (by decide) ?_
  refine ab_iadd 476 d_L_law_475 ?_
  obtain ⟨g6, hyp⟩ := ab_gd hyp
  refine ab_sld 477 d_L_law_476 g6 ?_
  obtain ⟨r8, hc7, hyp⟩ := ab_bind hyp
  refine ab_callV (h' := lay r8.2) (hf := ⟨nbC (a := (k0 + 2)) (by omega), nbS (a := (n0 + 12)) (by omega)⟩) 480 (k0 + 2) (n0 + 12) [] [.long r8.1] d_L_law_477 ok_M_kinship ll_32 (c_M_kinship hc7) rfl rfl ?_
  refine ab_lstore 482 [(6, _), (5, _), (0, _), (1, _), (2, _), (3, _), (4, _)] d_L_law_480 rfl ?_
  refine ab_aload_n 483 d_L_law_482 rfl ?_
  obtain ⟨r10, hc9, hyp⟩ := ab_bind hyp
  refine ab_callV (h' := lay r8.2) (hf := ⟨nbC (a := (k0 + 2)) (by omega), nbS (a := (n0 + 12)) (by omega)⟩) 486 (k0 + 2) (n0 + 12) [] [.int r10] d_L_law_483 ok_M_thrown ll_4 (c_M_thrown hc9) rfl rfl ?_
  refine ab_iload 488 d_L_law_486 rfl ?_
  refine ab_ic_eq 493 491 d_L_law_488 (fun z11 => ?_) (fun z11 => ?_)
  · replace hyp := ab_pos z11 hyp
    refine ab_iload 495 d_L_law_493 rfl ?_
    refine ab_if_ne 509 498 d_L_law_495 (fun z12 => ?_) (fun z12 => ?_)
    · replace hyp := ab_neg z12 hyp
      refine ab_goto 1366 d_L_law_509 ?_
      refine ab_iinc 1369 [(4, _), (6, _), (5, _), (0, _), (1, _), (2, _), (3, _)] d_L_law_1366 (5 : Int32) (by decide) rfl rfl ?_
      refine ab_goto 23 d_L_law_1369 ?_
      refine ab_wide (k' := k0 + 5) (n' := n0 + 30) (by omega) (by omega) ?_
      refine ab_pick [3, 4, 5, 6, 0] [(0, _), (1, _), (2, _), (3, _), (4, _)] rfl ?_
      exact hrec23 (v4 + (5 : Int32)) r8.2 hyp
    · replace hyp := ab_pos z12 hyp
      refine ab_aload_n 499 d_L_law_498 rfl ?_
      refine ab_iconst 500 d_L_law_499 (0 : Int32) (by decide) ?_
      obtain ⟨g13, hyp⟩ := ab_gd hyp
      refine ab_lld 7 1 501 d_L_law_500 rfl g13 ?_
      refine ab_lload 503 d_L_law_501 rfl ?_
      refine ab_lc_eq 509 504 507 d_L_law_503 d_L_law_504 (fun z14 => ?_) (fun z14 => ?_)
      · replace hyp := ab_pos z14 hyp
        refine ab_goto 1366 d_L_law_509 ?_
        refine ab_iinc 1369 [(4, _), (6, _), (5, _), (0, _), (1, _), (2, _), (3, _)] d_L_law_1366 (5 : Int32) (by decide) rfl rfl ?_
        refine ab_goto 23 d_L_law_1369 ?_
        refine ab_wide (k' := k0 + 5) (n' := n0 + 30) (by omega) (by omega) ?_
        refine ab_pick [3, 4, 5, 6, 0] [(0, _), (1, _), (2, _), (3, _), (4, _)] rfl ?_
        exact hrec23 (v4 + (5 : Int32)) r8.2 hyp
      · replace hyp := ab_neg z14 hyp
        refine ab_iconst 508 d_L_law_507 (0 : Int32) (by decide) ?_
        cases hyp
        exact absurd (show (0 : Int32) = 1 from hr) (by decide)
  · replace hyp := ab_neg z11 hyp
    refine ab_iconst 492 d_L_law_491 (0 : Int32) (by decide) ?_
    cases hyp
    exact absurd (show (0 : Int32) = 1 from hr) (by decide)
theorem q_L_law_c432 {l : Launch} {D : va_G} {B b : Nat} {ad : Nat → Nat} {k0 n0 : Nat} (hk : k0 + 5 ≤ 601024) (hn : n0 + 30 ≤ 7293034) {r : Int32 × Me} (hr : r.1 = 1) (xs : Nat → Int32) (L : Nat) (rec23 : Int32 → Me → Option (Int32 × Me)) (hrec23 : ∀ (v4 : Int32) (M : Me), rec23 v4 M = some r → ab_V (ab_kl l D B b L xs) ad 23 [(0, .ref 999), (1, .ref 0), (2, .ref 3), (3, .ref 36), (4, .int v4)] [] (lay M) (k0 + 5) (n0 + 30)) (v4 : Int32) (M : Me) (hyp : L_law_c432 xs L rec23 v4 M = some r) : ab_V (ab_kl l D B b L xs) ad 432 [(0, .ref 999), (1, .ref 0), (2, .ref 3), (3, .ref 36), (4, .int v4)] [] (lay M) k0 n0 := by
  unfold L_law_c432 at hyp
  refine ab_aload_n 433 d_L_law_432 rfl ?_
  obtain ⟨r2, hc1, hyp⟩ := ab_bind hyp
  refine ab_callV (h' := lay M) (hf := ⟨nbC (a := k0) (by omega), nbS (a := n0) (by omega)⟩) 436 k0 n0 [] [.int r2] d_L_law_433 ok_H_animals ll_33 (c_H_animals hc1) rfl rfl ?_
  refine ab_aload_n 437 d_L_law_436 rfl ?_
  obtain ⟨r4, hc3, hyp⟩ := ab_bind hyp
  refine ab_callV (h' := lay r4.2) (hf := ⟨nbC (a := k0) (by omega), nbS (a := n0) (by omega)⟩) 440 k0 n0 [.int r2] [.int r4.1, .int r2] d_L_law_437 ok_M_animals ll_34 (c_M_animals hc3) rfl rfl ?_
  refine ab_ic_eq 1366 443 d_L_law_440 (fun z5 => ?_) (fun z5 => ?_)
  · replace hyp := ab_pos z5 hyp
    refine ab_iinc 1369 [(4, _), (0, _), (1, _), (2, _), (3, _)] d_L_law_1366 (5 : Int32) (by decide) rfl rfl ?_
    refine ab_goto 23 d_L_law_1369 ?_
    refine ab_wide (k' := k0 + 5) (n' := n0 + 30) (by omega) (by omega) ?_
    refine ab_pick [1, 2, 3, 4, 0] [(0, _), (1, _), (2, _), (3, _), (4, _)] rfl ?_
    exact hrec23 (v4 + (5 : Int32)) r4.2 hyp
  · replace hyp := ab_neg z5 hyp
    refine ab_iconst 444 d_L_law_443 (0 : Int32) (by decide) ?_
    cases hyp
    exact absurd (show (0 : Int32) = 1 from hr) (by decide)
theorem q_L_law_c364 {l : Launch} {D : va_G} {B b : Nat} {ad : Nat → Nat} {k0 n0 : Nat} (hk : k0 + 5 ≤ 601024) (hn : n0 + 30 ≤ 7293034) {r : Int32 × Me} (hr : r.1 = 1) (xs : Nat → Int32) (L : Nat) (rec23 : Int32 → Me → Option (Int32 × Me)) (hrec23 : ∀ (v4 : Int32) (M : Me), rec23 v4 M = some r → ab_V (ab_kl l D B b L xs) ad 23 [(0, .ref 999), (1, .ref 0), (2, .ref 3), (3, .ref 36), (4, .int v4)] [] (lay M) (k0 + 5) (n0 + 30)) (v4 : Int32) (M : Me) (hyp : L_law_c364 xs L rec23 v4 M = some r) : ab_V (ab_kl l D B b L xs) ad 364 [(0, .ref 999), (1, .ref 0), (2, .ref 3), (3, .ref 36), (4, .int v4)] [] (lay M) k0 n0 := by
  unfold L_law_c364 at hyp
  refine ab_aload_n 365 d_L_law_364 rfl ?_
  refine ab_aload_n 366 d_L_law_365 rfl ?_
  refine ab_iload 368 d_L_law_366 rfl ?_
  refine ab_iconst 369 d_L_law_368 (1 : Int32) (by decide) ?_
  refine ab_iadd 370 d_L_law_369 ?_
  obtain ⟨g1, hyp⟩ := ab_gd hyp
  refine ab_sld 371 d_L_law_370 g1 ?_
  refine ab_aload_n 372 d_L_law_371 rfl ?_
  refine ab_iload 374 d_L_law_372 rfl ?_
  refine ab_iconst 375 d_L_law_374 (2 : Int32) (by decide) ?_
  refine ab_iadd 376 d_L_law_375 ?_
  obtain ⟨g2, hyp⟩ := ab_gd hyp
  refine ab_sld 377 d_L_law_376 g2 ?_
  refine ab_aload_n 378 d_L_law_377 rfl ?_
  obtain ⟨r4, hc3, hyp⟩ := ab_bind hyp
  refine ab_callS (h' := lay r4.2) (hf := ⟨nbC (a := (k0 + 2)) (by omega), nbS (a := (n0 + 12)) (by omega)⟩) 381 (k0 + 2) (n0 + 12) [] [.int r4.1] d_L_law_378 ok_L_of ll_35 (c_L_of hc3) rfl ?_
  refine ab_istore 383 [(5, _), (0, _), (1, _), (2, _), (3, _), (4, _)] d_L_law_381 rfl ?_
  refine ab_aload_n 384 d_L_law_383 rfl ?_
  refine ab_aload_n 385 d_L_law_384 rfl ?_
  refine ab_iload 387 d_L_law_385 rfl ?_
  refine ab_iconst 388 d_L_law_387 (1 : Int32) (by decide) ?_
  refine ab_iadd 389 d_L_law_388 ?_
  obtain ⟨g5, hyp⟩ := ab_gd hyp
  refine ab_sld 390 d_L_law_389 g5 ?_
  refine ab_aload_n 391 d_L_law_390 rfl ?_
  refine ab_iload 393 d_L_law_391 rfl ?_
  refine ab_iconst 394 d_L_law_393 (2 : Int32) (by decide) ?_
  refine ab_iadd 395 d_L_law_394 ?_
  obtain ⟨g6, hyp⟩ := ab_gd hyp
  refine ab_sld 396 d_L_law_395 g6 ?_
  obtain ⟨r8, hc7, hyp⟩ := ab_bind hyp
  refine ab_callV (h' := lay r8.2) (hf := ⟨nbC (a := (k0 + 2)) (by omega), nbS (a := (n0 + 12)) (by omega)⟩) 399 (k0 + 2) (n0 + 12) [] [.int r8.1] d_L_law_396 ok_M_of ll_36 (c_M_of hc7) rfl rfl ?_
  refine ab_istore 401 [(6, _), (5, _), (0, _), (1, _), (2, _), (3, _), (4, _)] d_L_law_399 rfl ?_
  refine ab_aload_n 402 d_L_law_401 rfl ?_
  obtain ⟨r10, hc9, hyp⟩ := ab_bind hyp
  refine ab_callV (h' := lay r8.2) (hf := ⟨nbC (a := (k0 + 2)) (by omega), nbS (a := (n0 + 12)) (by omega)⟩) 405 (k0 + 2) (n0 + 12) [] [.int r10] d_L_law_402 ok_M_thrown ll_4 (c_M_thrown hc9) rfl rfl ?_
  refine ab_iload 407 d_L_law_405 rfl ?_
  refine ab_ic_eq 412 410 d_L_law_407 (fun z11 => ?_) (fun z11 => ?_)
  · replace hyp := ab_pos z11 hyp
    refine ab_iload 414 d_L_law_412 rfl ?_
    refine ab_if_ne 429 417 d_L_law_414 (fun z12 => ?_) (fun z12 => ?_)
    · replace hyp := ab_neg z12 hyp
      refine ab_goto 1366 d_L_law_429 ?_
      refine ab_iinc 1369 [(4, _), (6, _), (5, _), (0, _), (1, _), (2, _), (3, _)] d_L_law_1366 (5 : Int32) (by decide) rfl rfl ?_
      refine ab_goto 23 d_L_law_1369 ?_
      refine ab_wide (k' := k0 + 5) (n' := n0 + 30) (by omega) (by omega) ?_
      refine ab_pick [3, 4, 5, 6, 0] [(0, _), (1, _), (2, _), (3, _), (4, _)] rfl ?_
      exact hrec23 (v4 + (5 : Int32)) r8.2 hyp
    · replace hyp := ab_pos z12 hyp
      refine ab_aload_n 418 d_L_law_417 rfl ?_
      refine ab_iconst 419 d_L_law_418 (0 : Int32) (by decide) ?_
      obtain ⟨g13, hyp⟩ := ab_gd hyp
      refine ab_lld 7 1 420 d_L_law_419 rfl g13 ?_
      refine ab_iload 422 d_L_law_420 rfl ?_
      refine ab_i2l 423 d_L_law_422 ?_
      refine ab_lc_eq 429 424 427 d_L_law_423 d_L_law_424 (fun z14 => ?_) (fun z14 => ?_)
      · replace hyp := ab_pos z14 hyp
        refine ab_goto 1366 d_L_law_429 ?_
        refine ab_iinc 1369 [(4, _), (6, _), (5, _), (0, _), (1, _), (2, _), (3, _)] d_L_law_1366 (5 : Int32) (by decide) rfl rfl ?_
        refine ab_goto 23 d_L_law_1369 ?_
        refine ab_wide (k' := k0 + 5) (n' := n0 + 30) (by omega) (by omega) ?_
        refine ab_pick [3, 4, 5, 6, 0] [(0, _), (1, _), (2, _), (3, _), (4, _)] rfl ?_
        exact hrec23 (v4 + (5 : Int32)) r8.2 hyp
      · replace hyp := ab_neg z14 hyp
        refine ab_iconst 428 d_L_law_427 (0 : Int32) (by decide) ?_
        cases hyp
        exact absurd (show (0 : Int32) = 1 from hr) (by decide)
  · replace hyp := ab_neg z11 hyp
    refine ab_iconst 411 d_L_law_410 (0 : Int32) (by decide) ?_
    cases hyp
    exact absurd (show (0 : Int32) = 1 from hr) (by decide)
theorem q_L_law_c308 {l : Launch} {D : va_G} {B b : Nat} {ad : Nat → Nat} {k0 n0 : Nat} (hk : k0 + 5 ≤ 601024) (hn : n0 + 30 ≤ 7293034) {r : Int32 × Me} (hr : r.1 = 1) (xs : Nat → Int32) (L : Nat) (rec23 : Int32 → Me → Option (Int32 × Me)) (hrec23 : ∀ (v4 : Int32) (M : Me), rec23 v4 M = some r → ab_V (ab_kl l D B b L xs) ad 23 [(0, .ref 999), (1, .ref 0), (2, .ref 3), (3, .ref 36), (4, .int v4)] [] (lay M) (k0 + 5) (n0 + 30)) (v4 : Int32) (M : Me) (hyp : L_law_c308 xs L rec23 v4 M = some r) : ab_V (ab_kl l D B b L xs) ad 308 [(0, .ref 999), (1, .ref 0), (2, .ref 3), (3, .ref 36), (4, .int v4)] [] (lay M) k0 n0 := by
  unfold L_law_c308 at hyp
  refine ab_aload_n 309 d_L_law_308 rfl ?_
  refine ab_aload_n 310 d_L_law_309 rfl ?_
  refine ab_iload 312 d_L_law_310 rfl ?_
  refine ab_iconst 313 d_L_law_312 (1 : Int32) (by decide) ?_
  refine ab_iadd 314 d_L_law_313 ?_
  obtain ⟨g1, hyp⟩ := ab_gd hyp
  refine ab_sld 315 d_L_law_314 g1 ?_
  refine ab_aload_n 316 d_L_law_315 rfl ?_
  obtain ⟨r3, hc2, hyp⟩ := ab_bind hyp
  refine ab_callS (h' := lay r3.2) (hf := ⟨nbC (a := (k0 + 2)) (by omega), nbS (a := (n0 + 12)) (by omega)⟩) 319 (k0 + 2) (n0 + 12) [] [.int r3.1] d_L_law_316 ok_L_cull ll_37 (c_L_cull hc2) rfl ?_
  refine ab_istore 321 [(5, _), (0, _), (1, _), (2, _), (3, _), (4, _)] d_L_law_319 rfl ?_
  refine ab_aload_n 322 d_L_law_321 rfl ?_
  refine ab_aload_n 323 d_L_law_322 rfl ?_
  refine ab_iload 325 d_L_law_323 rfl ?_
  refine ab_iconst 326 d_L_law_325 (1 : Int32) (by decide) ?_
  refine ab_iadd 327 d_L_law_326 ?_
  obtain ⟨g4, hyp⟩ := ab_gd hyp
  refine ab_sld 328 d_L_law_327 g4 ?_
  obtain ⟨r6, hc5, hyp⟩ := ab_bind hyp
  refine ab_callV (h' := lay r6.2) (hf := ⟨nbC (a := (k0 + 2)) (by omega), nbS (a := (n0 + 12)) (by omega)⟩) 331 (k0 + 2) (n0 + 12) [] [.int r6.1] d_L_law_328 ok_M_cull ll_38 (c_M_cull hc5) rfl rfl ?_
  refine ab_istore 333 [(6, _), (5, _), (0, _), (1, _), (2, _), (3, _), (4, _)] d_L_law_331 rfl ?_
  refine ab_aload_n 334 d_L_law_333 rfl ?_
  obtain ⟨r8, hc7, hyp⟩ := ab_bind hyp
  refine ab_callV (h' := lay r6.2) (hf := ⟨nbC (a := (k0 + 2)) (by omega), nbS (a := (n0 + 12)) (by omega)⟩) 337 (k0 + 2) (n0 + 12) [] [.int r8] d_L_law_334 ok_M_thrown ll_4 (c_M_thrown hc7) rfl rfl ?_
  refine ab_iload 339 d_L_law_337 rfl ?_
  refine ab_ic_eq 344 342 d_L_law_339 (fun z9 => ?_) (fun z9 => ?_)
  · replace hyp := ab_pos z9 hyp
    refine ab_iload 346 d_L_law_344 rfl ?_
    refine ab_if_ne 361 349 d_L_law_346 (fun z10 => ?_) (fun z10 => ?_)
    · replace hyp := ab_neg z10 hyp
      refine ab_goto 1366 d_L_law_361 ?_
      refine ab_iinc 1369 [(4, _), (6, _), (5, _), (0, _), (1, _), (2, _), (3, _)] d_L_law_1366 (5 : Int32) (by decide) rfl rfl ?_
      refine ab_goto 23 d_L_law_1369 ?_
      refine ab_wide (k' := k0 + 5) (n' := n0 + 30) (by omega) (by omega) ?_
      refine ab_pick [3, 4, 5, 6, 0] [(0, _), (1, _), (2, _), (3, _), (4, _)] rfl ?_
      exact hrec23 (v4 + (5 : Int32)) r6.2 hyp
    · replace hyp := ab_pos z10 hyp
      refine ab_aload_n 350 d_L_law_349 rfl ?_
      refine ab_iconst 351 d_L_law_350 (0 : Int32) (by decide) ?_
      obtain ⟨g11, hyp⟩ := ab_gd hyp
      refine ab_lld 7 1 352 d_L_law_351 rfl g11 ?_
      refine ab_iload 354 d_L_law_352 rfl ?_
      refine ab_i2l 355 d_L_law_354 ?_
      refine ab_lc_eq 361 356 359 d_L_law_355 d_L_law_356 (fun z12 => ?_) (fun z12 => ?_)
      · replace hyp := ab_pos z12 hyp
        refine ab_goto 1366 d_L_law_361 ?_
        refine ab_iinc 1369 [(4, _), (6, _), (5, _), (0, _), (1, _), (2, _), (3, _)] d_L_law_1366 (5 : Int32) (by decide) rfl rfl ?_
        refine ab_goto 23 d_L_law_1369 ?_
        refine ab_wide (k' := k0 + 5) (n' := n0 + 30) (by omega) (by omega) ?_
        refine ab_pick [3, 4, 5, 6, 0] [(0, _), (1, _), (2, _), (3, _), (4, _)] rfl ?_
        exact hrec23 (v4 + (5 : Int32)) r6.2 hyp
      · replace hyp := ab_neg z12 hyp
        refine ab_iconst 360 d_L_law_359 (0 : Int32) (by decide) ?_
        cases hyp
        exact absurd (show (0 : Int32) = 1 from hr) (by decide)
  · replace hyp := ab_neg z9 hyp
    refine ab_iconst 343 d_L_law_342 (0 : Int32) (by decide) ?_
    cases hyp
    exact absurd (show (0 : Int32) = 1 from hr) (by decide)
theorem q_L_law_c228 {l : Launch} {D : va_G} {B b : Nat} {ad : Nat → Nat} {k0 n0 : Nat} (hk : k0 + 5 ≤ 601024) (hn : n0 + 30 ≤ 7293034) {r : Int32 × Me} (hr : r.1 = 1) (xs : Nat → Int32) (L : Nat) (rec23 : Int32 → Me → Option (Int32 × Me)) (hrec23 : ∀ (v4 : Int32) (M : Me), rec23 v4 M = some r → ab_V (ab_kl l D B b L xs) ad 23 [(0, .ref 999), (1, .ref 0), (2, .ref 3), (3, .ref 36), (4, .int v4)] [] (lay M) (k0 + 5) (n0 + 30)) (v4 : Int32) (M : Me) (hyp : L_law_c228 xs L rec23 v4 M = some r) : ab_V (ab_kl l D B b L xs) ad 228 [(0, .ref 999), (1, .ref 0), (2, .ref 3), (3, .ref 36), (4, .int v4)] [] (lay M) k0 n0 := by
  unfold L_law_c228 at hyp
  refine ab_aload_n 229 d_L_law_228 rfl ?_
  refine ab_aload_n 230 d_L_law_229 rfl ?_
  refine ab_iload 232 d_L_law_230 rfl ?_
  refine ab_iconst 233 d_L_law_232 (1 : Int32) (by decide) ?_
  refine ab_iadd 234 d_L_law_233 ?_
  obtain ⟨g1, hyp⟩ := ab_gd hyp
  refine ab_sld 235 d_L_law_234 g1 ?_
  refine ab_aload_n 236 d_L_law_235 rfl ?_
  refine ab_iload 238 d_L_law_236 rfl ?_
  refine ab_iconst 239 d_L_law_238 (2 : Int32) (by decide) ?_
  refine ab_iadd 240 d_L_law_239 ?_
  obtain ⟨g2, hyp⟩ := ab_gd hyp
  refine ab_sld 241 d_L_law_240 g2 ?_
  refine ab_aload_n 242 d_L_law_241 rfl ?_
  refine ab_iload 244 d_L_law_242 rfl ?_
  refine ab_iconst 245 d_L_law_244 (3 : Int32) (by decide) ?_
  refine ab_iadd 246 d_L_law_245 ?_
  obtain ⟨g3, hyp⟩ := ab_gd hyp
  refine ab_sld 247 d_L_law_246 g3 ?_
  refine ab_aload_n 248 d_L_law_247 rfl ?_
  obtain ⟨r5, hc4, hyp⟩ := ab_bind hyp
  refine ab_callS (h' := lay r5.2) (hf := ⟨nbC (a := (k0 + 5)) (by omega), nbS (a := (n0 + 30)) (by omega)⟩) 251 (k0 + 5) (n0 + 30) [] [.int r5.1] d_L_law_248 ok_L_correct ll_39 (c_L_correct hc4) rfl ?_
  refine ab_istore 253 [(5, _), (0, _), (1, _), (2, _), (3, _), (4, _)] d_L_law_251 rfl ?_
  refine ab_aload_n 254 d_L_law_253 rfl ?_
  refine ab_aload_n 255 d_L_law_254 rfl ?_
  refine ab_iload 257 d_L_law_255 rfl ?_
  refine ab_iconst 258 d_L_law_257 (1 : Int32) (by decide) ?_
  refine ab_iadd 259 d_L_law_258 ?_
  obtain ⟨g6, hyp⟩ := ab_gd hyp
  refine ab_sld 260 d_L_law_259 g6 ?_
  refine ab_aload_n 261 d_L_law_260 rfl ?_
  refine ab_iload 263 d_L_law_261 rfl ?_
  refine ab_iconst 264 d_L_law_263 (2 : Int32) (by decide) ?_
  refine ab_iadd 265 d_L_law_264 ?_
  obtain ⟨g7, hyp⟩ := ab_gd hyp
  refine ab_sld 266 d_L_law_265 g7 ?_
  refine ab_aload_n 267 d_L_law_266 rfl ?_
  refine ab_iload 269 d_L_law_267 rfl ?_
  refine ab_iconst 270 d_L_law_269 (3 : Int32) (by decide) ?_
  refine ab_iadd 271 d_L_law_270 ?_
  obtain ⟨g8, hyp⟩ := ab_gd hyp
  refine ab_sld 272 d_L_law_271 g8 ?_
  obtain ⟨r10, hc9, hyp⟩ := ab_bind hyp
  refine ab_callV (h' := lay r10.2) (hf := ⟨nbC (a := (k0 + 5)) (by omega), nbS (a := (n0 + 30)) (by omega)⟩) 275 (k0 + 5) (n0 + 30) [] [.int r10.1] d_L_law_272 ok_M_correct ll_40 (c_M_correct hc9) rfl rfl ?_
  refine ab_istore 277 [(6, _), (5, _), (0, _), (1, _), (2, _), (3, _), (4, _)] d_L_law_275 rfl ?_
  refine ab_aload_n 278 d_L_law_277 rfl ?_
  obtain ⟨r12, hc11, hyp⟩ := ab_bind hyp
  refine ab_callV (h' := lay r10.2) (hf := ⟨nbC (a := (k0 + 5)) (by omega), nbS (a := (n0 + 30)) (by omega)⟩) 281 (k0 + 5) (n0 + 30) [] [.int r12] d_L_law_278 ok_M_thrown ll_4 (c_M_thrown hc11) rfl rfl ?_
  refine ab_iload 283 d_L_law_281 rfl ?_
  refine ab_ic_eq 288 286 d_L_law_283 (fun z13 => ?_) (fun z13 => ?_)
  · replace hyp := ab_pos z13 hyp
    refine ab_iload 290 d_L_law_288 rfl ?_
    refine ab_if_ne 305 293 d_L_law_290 (fun z14 => ?_) (fun z14 => ?_)
    · replace hyp := ab_neg z14 hyp
      refine ab_goto 1366 d_L_law_305 ?_
      refine ab_iinc 1369 [(4, _), (6, _), (5, _), (0, _), (1, _), (2, _), (3, _)] d_L_law_1366 (5 : Int32) (by decide) rfl rfl ?_
      refine ab_goto 23 d_L_law_1369 ?_
      refine ab_wide (k' := k0 + 5) (n' := n0 + 30) (by omega) (by omega) ?_
      refine ab_pick [3, 4, 5, 6, 0] [(0, _), (1, _), (2, _), (3, _), (4, _)] rfl ?_
      exact hrec23 (v4 + (5 : Int32)) r10.2 hyp
    · replace hyp := ab_pos z14 hyp
      refine ab_aload_n 294 d_L_law_293 rfl ?_
      refine ab_iconst 295 d_L_law_294 (0 : Int32) (by decide) ?_
      obtain ⟨g15, hyp⟩ := ab_gd hyp
      refine ab_lld 7 1 296 d_L_law_295 rfl g15 ?_
      refine ab_iload 298 d_L_law_296 rfl ?_
      refine ab_i2l 299 d_L_law_298 ?_
      refine ab_lc_eq 305 300 303 d_L_law_299 d_L_law_300 (fun z16 => ?_) (fun z16 => ?_)
      · replace hyp := ab_pos z16 hyp
        refine ab_goto 1366 d_L_law_305 ?_
        refine ab_iinc 1369 [(4, _), (6, _), (5, _), (0, _), (1, _), (2, _), (3, _)] d_L_law_1366 (5 : Int32) (by decide) rfl rfl ?_
        refine ab_goto 23 d_L_law_1369 ?_
        refine ab_wide (k' := k0 + 5) (n' := n0 + 30) (by omega) (by omega) ?_
        refine ab_pick [3, 4, 5, 6, 0] [(0, _), (1, _), (2, _), (3, _), (4, _)] rfl ?_
        exact hrec23 (v4 + (5 : Int32)) r10.2 hyp
      · replace hyp := ab_neg z16 hyp
        refine ab_iconst 304 d_L_law_303 (0 : Int32) (by decide) ?_
        cases hyp
        exact absurd (show (0 : Int32) = 1 from hr) (by decide)
  · replace hyp := ab_neg z13 hyp
    refine ab_iconst 287 d_L_law_286 (0 : Int32) (by decide) ?_
    cases hyp
    exact absurd (show (0 : Int32) = 1 from hr) (by decide)
theorem q_L_law_c136 {l : Launch} {D : va_G} {B b : Nat} {ad : Nat → Nat} {k0 n0 : Nat} (hk : k0 + 5 ≤ 601024) (hn : n0 + 30 ≤ 7293034) {r : Int32 × Me} (hr : r.1 = 1) (xs : Nat → Int32) (L : Nat) (rec23 : Int32 → Me → Option (Int32 × Me)) (hrec23 : ∀ (v4 : Int32) (M : Me), rec23 v4 M = some r → ab_V (ab_kl l D B b L xs) ad 23 [(0, .ref 999), (1, .ref 0), (2, .ref 3), (3, .ref 36), (4, .int v4)] [] (lay M) (k0 + 5) (n0 + 30)) (v4 : Int32) (M : Me) (hyp : L_law_c136 xs L rec23 v4 M = some r) : ab_V (ab_kl l D B b L xs) ad 136 [(0, .ref 999), (1, .ref 0), (2, .ref 3), (3, .ref 36), (4, .int v4)] [] (lay M) k0 n0 := by
  unfold L_law_c136 at hyp
  refine ab_aload_n 137 d_L_law_136 rfl ?_
  refine ab_aload_n 138 d_L_law_137 rfl ?_
  refine ab_iload 140 d_L_law_138 rfl ?_
  refine ab_iconst 141 d_L_law_140 (1 : Int32) (by decide) ?_
  refine ab_iadd 142 d_L_law_141 ?_
  obtain ⟨g1, hyp⟩ := ab_gd hyp
  refine ab_sld 143 d_L_law_142 g1 ?_
  refine ab_aload_n 144 d_L_law_143 rfl ?_
  refine ab_iload 146 d_L_law_144 rfl ?_
  refine ab_iconst 147 d_L_law_146 (2 : Int32) (by decide) ?_
  refine ab_iadd 148 d_L_law_147 ?_
  obtain ⟨g2, hyp⟩ := ab_gd hyp
  refine ab_sld 149 d_L_law_148 g2 ?_
  refine ab_aload_n 150 d_L_law_149 rfl ?_
  refine ab_iload 152 d_L_law_150 rfl ?_
  refine ab_iconst 153 d_L_law_152 (3 : Int32) (by decide) ?_
  refine ab_iadd 154 d_L_law_153 ?_
  obtain ⟨g3, hyp⟩ := ab_gd hyp
  refine ab_sld 155 d_L_law_154 g3 ?_
  refine ab_aload_n 156 d_L_law_155 rfl ?_
  refine ab_iload 158 d_L_law_156 rfl ?_
  refine ab_iconst 159 d_L_law_158 (4 : Int32) (by decide) ?_
  refine ab_iadd 160 d_L_law_159 ?_
  obtain ⟨g4, hyp⟩ := ab_gd hyp
  refine ab_sld 161 d_L_law_160 g4 ?_
  refine ab_aload_n 162 d_L_law_161 rfl ?_
  obtain ⟨r6, hc5, hyp⟩ := ab_bind hyp
  refine ab_callS (h' := lay r6.2) (hf := ⟨nbC (a := (k0 + 4)) (by omega), nbS (a := (n0 + 24)) (by omega)⟩) 165 (k0 + 4) (n0 + 24) [] [.int r6.1] d_L_law_162 ok_L_enter ll_41 (c_L_enter hc5) rfl ?_
  refine ab_istore 167 [(5, _), (0, _), (1, _), (2, _), (3, _), (4, _)] d_L_law_165 rfl ?_
  refine ab_aload_n 168 d_L_law_167 rfl ?_
  refine ab_aload_n 169 d_L_law_168 rfl ?_
  refine ab_iload 171 d_L_law_169 rfl ?_
  refine ab_iconst 172 d_L_law_171 (1 : Int32) (by decide) ?_
  refine ab_iadd 173 d_L_law_172 ?_
  obtain ⟨g7, hyp⟩ := ab_gd hyp
  refine ab_sld 174 d_L_law_173 g7 ?_
  refine ab_aload_n 175 d_L_law_174 rfl ?_
  refine ab_iload 177 d_L_law_175 rfl ?_
  refine ab_iconst 178 d_L_law_177 (2 : Int32) (by decide) ?_
  refine ab_iadd 179 d_L_law_178 ?_
  obtain ⟨g8, hyp⟩ := ab_gd hyp
  refine ab_sld 180 d_L_law_179 g8 ?_
  refine ab_aload_n 181 d_L_law_180 rfl ?_
  refine ab_iload 183 d_L_law_181 rfl ?_
  refine ab_iconst 184 d_L_law_183 (3 : Int32) (by decide) ?_
  refine ab_iadd 185 d_L_law_184 ?_
  obtain ⟨g9, hyp⟩ := ab_gd hyp
  refine ab_sld 186 d_L_law_185 g9 ?_
  refine ab_aload_n 187 d_L_law_186 rfl ?_
  refine ab_iload 189 d_L_law_187 rfl ?_
  refine ab_iconst 190 d_L_law_189 (4 : Int32) (by decide) ?_
  refine ab_iadd 191 d_L_law_190 ?_
  obtain ⟨g10, hyp⟩ := ab_gd hyp
  refine ab_sld 192 d_L_law_191 g10 ?_
  obtain ⟨r12, hc11, hyp⟩ := ab_bind hyp
  refine ab_callV (h' := lay r12.2) (hf := ⟨nbC (a := (k0 + 4)) (by omega), nbS (a := (n0 + 24)) (by omega)⟩) 195 (k0 + 4) (n0 + 24) [] [.int r12.1] d_L_law_192 ok_M_enter ll_42 (c_M_enter hc11) rfl rfl ?_
  refine ab_istore 197 [(6, _), (5, _), (0, _), (1, _), (2, _), (3, _), (4, _)] d_L_law_195 rfl ?_
  refine ab_aload_n 198 d_L_law_197 rfl ?_
  obtain ⟨r14, hc13, hyp⟩ := ab_bind hyp
  refine ab_callV (h' := lay r12.2) (hf := ⟨nbC (a := (k0 + 4)) (by omega), nbS (a := (n0 + 24)) (by omega)⟩) 201 (k0 + 4) (n0 + 24) [] [.int r14] d_L_law_198 ok_M_thrown ll_4 (c_M_thrown hc13) rfl rfl ?_
  refine ab_iload 203 d_L_law_201 rfl ?_
  refine ab_ic_eq 208 206 d_L_law_203 (fun z15 => ?_) (fun z15 => ?_)
  · replace hyp := ab_pos z15 hyp
    refine ab_iload 210 d_L_law_208 rfl ?_
    refine ab_if_ne 225 213 d_L_law_210 (fun z16 => ?_) (fun z16 => ?_)
    · replace hyp := ab_neg z16 hyp
      refine ab_goto 1366 d_L_law_225 ?_
      refine ab_iinc 1369 [(4, _), (6, _), (5, _), (0, _), (1, _), (2, _), (3, _)] d_L_law_1366 (5 : Int32) (by decide) rfl rfl ?_
      refine ab_goto 23 d_L_law_1369 ?_
      refine ab_wide (k' := k0 + 5) (n' := n0 + 30) (by omega) (by omega) ?_
      refine ab_pick [3, 4, 5, 6, 0] [(0, _), (1, _), (2, _), (3, _), (4, _)] rfl ?_
      exact hrec23 (v4 + (5 : Int32)) r12.2 hyp
    · replace hyp := ab_pos z16 hyp
      refine ab_aload_n 214 d_L_law_213 rfl ?_
      refine ab_iconst 215 d_L_law_214 (0 : Int32) (by decide) ?_
      obtain ⟨g17, hyp⟩ := ab_gd hyp
      refine ab_lld 7 1 216 d_L_law_215 rfl g17 ?_
      refine ab_iload 218 d_L_law_216 rfl ?_
      refine ab_i2l 219 d_L_law_218 ?_
      refine ab_lc_eq 225 220 223 d_L_law_219 d_L_law_220 (fun z18 => ?_) (fun z18 => ?_)
      · replace hyp := ab_pos z18 hyp
        refine ab_goto 1366 d_L_law_225 ?_
        refine ab_iinc 1369 [(4, _), (6, _), (5, _), (0, _), (1, _), (2, _), (3, _)] d_L_law_1366 (5 : Int32) (by decide) rfl rfl ?_
        refine ab_goto 23 d_L_law_1369 ?_
        refine ab_wide (k' := k0 + 5) (n' := n0 + 30) (by omega) (by omega) ?_
        refine ab_pick [3, 4, 5, 6, 0] [(0, _), (1, _), (2, _), (3, _), (4, _)] rfl ?_
        exact hrec23 (v4 + (5 : Int32)) r12.2 hyp
      · replace hyp := ab_neg z18 hyp
        refine ab_iconst 224 d_L_law_223 (0 : Int32) (by decide) ?_
        cases hyp
        exact absurd (show (0 : Int32) = 1 from hr) (by decide)
  · replace hyp := ab_neg z15 hyp
    refine ab_iconst 207 d_L_law_206 (0 : Int32) (by decide) ?_
    cases hyp
    exact absurd (show (0 : Int32) = 1 from hr) (by decide)
theorem q_L_law_b23 {l : Launch} {D : va_G} {B b : Nat} {ad : Nat → Nat} {k0 n0 : Nat} (hk : k0 + 5 ≤ 601024) (hn : n0 + 30 ≤ 7293034) {r : Int32 × Me} (hr : r.1 = 1) (xs : Nat → Int32) (L : Nat) (rec23 : Int32 → Me → Option (Int32 × Me)) (hrec23 : ∀ (v4 : Int32) (M : Me), rec23 v4 M = some r → ab_V (ab_kl l D B b L xs) ad 23 [(0, .ref 999), (1, .ref 0), (2, .ref 3), (3, .ref 36), (4, .int v4)] [] (lay M) (k0 + 5) (n0 + 30)) (v4 : Int32) (M : Me) (hyp : L_law_b23 xs L rec23 v4 M = some r) : ab_V (ab_kl l D B b L xs) ad 23 [(0, .ref 999), (1, .ref 0), (2, .ref 3), (3, .ref 36), (4, .int v4)] [] (lay M) k0 n0 := by
  unfold L_law_b23 at hyp
  refine ab_iload 25 d_L_law_23 rfl ?_
  refine ab_aload_n 26 d_L_law_25 rfl ?_
  refine ab_slen 27 d_L_law_26 ?_
  refine ab_iconst 28 d_L_law_27 (5 : Int32) (by decide) ?_
  refine ab_isub 29 d_L_law_28 ?_
  refine ab_ic_gt 1372 32 d_L_law_29 (fun z1 => ?_) (fun z1 => ?_)
  · replace hyp := ab_pos z1 hyp
    refine ab_iconst 1373 d_L_law_1372 (1 : Int32) (by decide) ?_
    cases hyp
    exact ab_lawret d_L_law_1373 (by omega) (by omega)
  · replace hyp := ab_neg z1 hyp
    refine ab_aload_n 33 d_L_law_32 rfl ?_
    refine ab_iload 35 d_L_law_33 rfl ?_
    obtain ⟨g2, hyp⟩ := ab_gd hyp
    refine ab_sld 36 d_L_law_35 g2 ?_
    refine ab_bipush 38 d_L_law_36 (31 : Int32) (by decide) ?_
    refine ab_iand 39 d_L_law_38 ?_
    by_cases zL_law0 : ((gS xs v4) &&& (31 : Int32)) = (0 : Int32)
    · replace hyp := ab_pos zL_law0 hyp
      refine ab_tabIn 136 d_L_law_39 (by rw [zL_law0]; decide) (by rw [zL_law0]; decide) (by rw [zL_law0]; rfl) ?_
      refine ab_pick [0, 1, 2, 3, 4] [(0, _), (1, _), (2, _), (3, _), (4, _)] rfl ?_
      exact q_L_law_c136 hk hn hr xs L rec23 hrec23 v4 M hyp
    · replace hyp := ab_neg zL_law0 hyp
      by_cases zL_law1 : ((gS xs v4) &&& (31 : Int32)) = (1 : Int32)
      · replace hyp := ab_pos zL_law1 hyp
        refine ab_tabIn 228 d_L_law_39 (by rw [zL_law1]; decide) (by rw [zL_law1]; decide) (by rw [zL_law1]; rfl) ?_
        refine ab_pick [0, 1, 2, 3, 4] [(0, _), (1, _), (2, _), (3, _), (4, _)] rfl ?_
        exact q_L_law_c228 hk hn hr xs L rec23 hrec23 v4 M hyp
      · replace hyp := ab_neg zL_law1 hyp
        by_cases zL_law2 : ((gS xs v4) &&& (31 : Int32)) = (2 : Int32)
        · replace hyp := ab_pos zL_law2 hyp
          refine ab_tabIn 308 d_L_law_39 (by rw [zL_law2]; decide) (by rw [zL_law2]; decide) (by rw [zL_law2]; rfl) ?_
          refine ab_pick [0, 1, 2, 3, 4] [(0, _), (1, _), (2, _), (3, _), (4, _)] rfl ?_
          exact q_L_law_c308 hk hn hr xs L rec23 hrec23 v4 M hyp
        · replace hyp := ab_neg zL_law2 hyp
          by_cases zL_law3 : ((gS xs v4) &&& (31 : Int32)) = (3 : Int32)
          · replace hyp := ab_pos zL_law3 hyp
            refine ab_tabIn 364 d_L_law_39 (by rw [zL_law3]; decide) (by rw [zL_law3]; decide) (by rw [zL_law3]; rfl) ?_
            refine ab_pick [0, 1, 2, 3, 4] [(0, _), (1, _), (2, _), (3, _), (4, _)] rfl ?_
            exact q_L_law_c364 hk hn hr xs L rec23 hrec23 v4 M hyp
          · replace hyp := ab_neg zL_law3 hyp
            by_cases zL_law4 : ((gS xs v4) &&& (31 : Int32)) = (4 : Int32)
            · replace hyp := ab_pos zL_law4 hyp
              refine ab_tabIn 432 d_L_law_39 (by rw [zL_law4]; decide) (by rw [zL_law4]; decide) (by rw [zL_law4]; rfl) ?_
              refine ab_pick [0, 1, 2, 3, 4] [(0, _), (1, _), (2, _), (3, _), (4, _)] rfl ?_
              exact q_L_law_c432 hk hn hr xs L rec23 hrec23 v4 M hyp
            · replace hyp := ab_neg zL_law4 hyp
              by_cases zL_law5 : ((gS xs v4) &&& (31 : Int32)) = (5 : Int32)
              · replace hyp := ab_pos zL_law5 hyp
                refine ab_tabIn 445 d_L_law_39 (by rw [zL_law5]; decide) (by rw [zL_law5]; decide) (by rw [zL_law5]; rfl) ?_
                refine ab_pick [0, 1, 2, 3, 4] [(0, _), (1, _), (2, _), (3, _), (4, _)] rfl ?_
                exact q_L_law_c445 hk hn hr xs L rec23 hrec23 v4 M hyp
              · replace hyp := ab_neg zL_law5 hyp
                by_cases zL_law6 : ((gS xs v4) &&& (31 : Int32)) = (6 : Int32)
                · replace hyp := ab_pos zL_law6 hyp
                  refine ab_tabIn 512 d_L_law_39 (by rw [zL_law6]; decide) (by rw [zL_law6]; decide) (by rw [zL_law6]; rfl) ?_
                  refine ab_pick [0, 1, 2, 3, 4] [(0, _), (1, _), (2, _), (3, _), (4, _)] rfl ?_
                  exact q_L_law_c512 hk hn hr xs L rec23 hrec23 v4 M hyp
                · replace hyp := ab_neg zL_law6 hyp
                  by_cases zL_law7 : ((gS xs v4) &&& (31 : Int32)) = (7 : Int32)
                  · replace hyp := ab_pos zL_law7 hyp
                    refine ab_tabIn 567 d_L_law_39 (by rw [zL_law7]; decide) (by rw [zL_law7]; decide) (by rw [zL_law7]; rfl) ?_
                    refine ab_pick [0, 1, 2, 3, 4] [(0, _), (1, _), (2, _), (3, _), (4, _)] rfl ?_
                    exact q_L_law_c567 hk hn hr xs L rec23 hrec23 v4 M hyp
                  · replace hyp := ab_neg zL_law7 hyp
                    by_cases zL_law8 : ((gS xs v4) &&& (31 : Int32)) = (8 : Int32)
                    · replace hyp := ab_pos zL_law8 hyp
                      refine ab_tabIn 634 d_L_law_39 (by rw [zL_law8]; decide) (by rw [zL_law8]; decide) (by rw [zL_law8]; rfl) ?_
                      refine ab_pick [0, 1, 2, 3, 4] [(0, _), (1, _), (2, _), (3, _), (4, _)] rfl ?_
                      exact q_L_law_c634 hk hn hr xs L rec23 hrec23 v4 M hyp
                    · replace hyp := ab_neg zL_law8 hyp
                      by_cases zL_law9 : ((gS xs v4) &&& (31 : Int32)) = (9 : Int32)
                      · replace hyp := ab_pos zL_law9 hyp
                        refine ab_tabIn 701 d_L_law_39 (by rw [zL_law9]; decide) (by rw [zL_law9]; decide) (by rw [zL_law9]; rfl) ?_
                        refine ab_pick [0, 1, 2, 3, 4] [(0, _), (1, _), (2, _), (3, _), (4, _)] rfl ?_
                        exact q_L_law_c701 hk hn hr xs L rec23 hrec23 v4 M hyp
                      · replace hyp := ab_neg zL_law9 hyp
                        by_cases zL_law10 : ((gS xs v4) &&& (31 : Int32)) = (10 : Int32)
                        · replace hyp := ab_pos zL_law10 hyp
                          refine ab_tabIn 756 d_L_law_39 (by rw [zL_law10]; decide) (by rw [zL_law10]; decide) (by rw [zL_law10]; rfl) ?_
                          refine ab_pick [0, 1, 2, 3, 4] [(0, _), (1, _), (2, _), (3, _), (4, _)] rfl ?_
                          exact q_L_law_c756 hk hn hr xs L rec23 hrec23 v4 M hyp
                        · replace hyp := ab_neg zL_law10 hyp
                          by_cases zL_law11 : ((gS xs v4) &&& (31 : Int32)) = (11 : Int32)
                          · replace hyp := ab_pos zL_law11 hyp
                            refine ab_tabIn 811 d_L_law_39 (by rw [zL_law11]; decide) (by rw [zL_law11]; decide) (by rw [zL_law11]; rfl) ?_
                            refine ab_pick [0, 1, 2, 3, 4] [(0, _), (1, _), (2, _), (3, _), (4, _)] rfl ?_
                            exact q_L_law_c811 hk hn hr xs L rec23 hrec23 v4 M hyp
                          · replace hyp := ab_neg zL_law11 hyp
                            by_cases zL_law12 : ((gS xs v4) &&& (31 : Int32)) = (12 : Int32)
                            · replace hyp := ab_pos zL_law12 hyp
                              refine ab_tabIn 825 d_L_law_39 (by rw [zL_law12]; decide) (by rw [zL_law12]; decide) (by rw [zL_law12]; rfl) ?_
                              refine ab_pick [0, 1, 2, 3, 4] [(0, _), (1, _), (2, _), (3, _), (4, _)] rfl ?_
                              exact q_L_law_c825 hk hn hr xs L rec23 hrec23 v4 M hyp
                            · replace hyp := ab_neg zL_law12 hyp
                              by_cases zL_law13 : ((gS xs v4) &&& (31 : Int32)) = (13 : Int32)
                              · replace hyp := ab_pos zL_law13 hyp
                                refine ab_tabIn 881 d_L_law_39 (by rw [zL_law13]; decide) (by rw [zL_law13]; decide) (by rw [zL_law13]; rfl) ?_
                                refine ab_pick [0, 1, 2, 3, 4] [(0, _), (1, _), (2, _), (3, _), (4, _)] rfl ?_
                                exact q_L_law_c881 hk hn hr xs L rec23 hrec23 v4 M hyp
                              · replace hyp := ab_neg zL_law13 hyp
                                by_cases zL_law14 : ((gS xs v4) &&& (31 : Int32)) = (14 : Int32)
                                · replace hyp := ab_pos zL_law14 hyp
                                  refine ab_tabIn 937 d_L_law_39 (by rw [zL_law14]; decide) (by rw [zL_law14]; decide) (by rw [zL_law14]; rfl) ?_
                                  refine ab_pick [0, 1, 2, 3, 4] [(0, _), (1, _), (2, _), (3, _), (4, _)] rfl ?_
                                  exact q_L_law_c937 hk hn hr xs L rec23 hrec23 v4 M hyp
                                · replace hyp := ab_neg zL_law14 hyp
                                  by_cases zL_law15 : ((gS xs v4) &&& (31 : Int32)) = (15 : Int32)
                                  · replace hyp := ab_pos zL_law15 hyp
                                    refine ab_tabIn 1005 d_L_law_39 (by rw [zL_law15]; decide) (by rw [zL_law15]; decide) (by rw [zL_law15]; rfl) ?_
                                    refine ab_pick [0, 1, 2, 3, 4] [(0, _), (1, _), (2, _), (3, _), (4, _)] rfl ?_
                                    exact q_L_law_c1005 hk hn hr xs L rec23 hrec23 v4 M hyp
                                  · replace hyp := ab_neg zL_law15 hyp
                                    by_cases zL_law16 : ((gS xs v4) &&& (31 : Int32)) = (16 : Int32)
                                    · replace hyp := ab_pos zL_law16 hyp
                                      refine ab_tabIn 1073 d_L_law_39 (by rw [zL_law16]; decide) (by rw [zL_law16]; decide) (by rw [zL_law16]; rfl) ?_
                                      refine ab_pick [0, 1, 2, 3, 4] [(0, _), (1, _), (2, _), (3, _), (4, _)] rfl ?_
                                      exact q_L_law_c1073 hk hn hr xs L rec23 hrec23 v4 M hyp
                                    · replace hyp := ab_neg zL_law16 hyp
                                      by_cases zL_law17 : ((gS xs v4) &&& (31 : Int32)) = (17 : Int32)
                                      · replace hyp := ab_pos zL_law17 hyp
                                        refine ab_tabIn 1129 d_L_law_39 (by rw [zL_law17]; decide) (by rw [zL_law17]; decide) (by rw [zL_law17]; rfl) ?_
                                        refine ab_pick [0, 1, 2, 3, 4] [(0, _), (1, _), (2, _), (3, _), (4, _)] rfl ?_
                                        exact q_L_law_c1129 hk hn hr xs L rec23 hrec23 v4 M hyp
                                      · replace hyp := ab_neg zL_law17 hyp
                                        by_cases zL_law18 : ((gS xs v4) &&& (31 : Int32)) = (18 : Int32)
                                        · replace hyp := ab_pos zL_law18 hyp
                                          refine ab_tabIn 1185 d_L_law_39 (by rw [zL_law18]; decide) (by rw [zL_law18]; decide) (by rw [zL_law18]; rfl) ?_
                                          refine ab_pick [0, 1, 2, 3, 4] [(0, _), (1, _), (2, _), (3, _), (4, _)] rfl ?_
                                          exact q_L_law_c1185 hk hn hr xs L rec23 hrec23 v4 M hyp
                                        · replace hyp := ab_neg zL_law18 hyp
                                          by_cases zL_law19 : ((gS xs v4) &&& (31 : Int32)) = (19 : Int32)
                                          · replace hyp := ab_pos zL_law19 hyp
                                            refine ab_tabIn 1296 d_L_law_39 (by rw [zL_law19]; decide) (by rw [zL_law19]; decide) (by rw [zL_law19]; rfl) ?_
                                            refine ab_pick [0, 1, 2, 3, 4] [(0, _), (1, _), (2, _), (3, _), (4, _)] rfl ?_
                                            exact q_L_law_c1296 hk hn hr xs L rec23 hrec23 v4 M hyp
                                          · replace hyp := ab_neg zL_law19 hyp
                                            by_cases zL_law20 : ((gS xs v4) &&& (31 : Int32)) = (20 : Int32)
                                            · replace hyp := ab_pos zL_law20 hyp
                                              refine ab_tabIn 1352 d_L_law_39 (by rw [zL_law20]; decide) (by rw [zL_law20]; decide) (by rw [zL_law20]; rfl) ?_
                                              refine ab_pick [0, 1, 2, 3, 4] [(0, _), (1, _), (2, _), (3, _), (4, _)] rfl ?_
                                              exact q_L_law_c1352 hk hn hr xs L rec23 hrec23 v4 M hyp
                                            · replace hyp := ab_neg zL_law20 hyp
                                              refine ab_tabOut 1366 d_L_law_39 (ab_sw21 zL_law0 zL_law1 zL_law2 zL_law3 zL_law4 zL_law5 zL_law6 zL_law7 zL_law8 zL_law9 zL_law10 zL_law11 zL_law12 zL_law13 zL_law14 zL_law15 zL_law16 zL_law17 zL_law18 zL_law19 zL_law20) ?_
                                              refine ab_iinc 1369 [(4, _), (0, _), (1, _), (2, _), (3, _)] d_L_law_1366 (5 : Int32) (by decide) rfl rfl ?_
                                              refine ab_goto 23 d_L_law_1369 ?_
                                              refine ab_wide (k' := k0 + 5) (n' := n0 + 30) (by omega) (by omega) ?_
                                              refine ab_pick [1, 2, 3, 4, 0] [(0, _), (1, _), (2, _), (3, _), (4, _)] rfl ?_
                                              exact hrec23 (v4 + (5 : Int32)) M hyp
theorem q_L_law_L23 {l : Launch} {D : va_G} {B b : Nat} {ad : Nat → Nat} {r : Int32 × Me} (hr : r.1 = 1) (xs : Nat → Int32) (L : Nat) : ∀ (F k0 n0 : Nat), k0 + 5 * F ≤ 601024 → n0 + 30 * F ≤ 7293034 → ∀ (v4 : Int32) (M : Me), L_law_L23 xs L F v4 M = some r → ab_V (ab_kl l D B b L xs) ad 23 [(0, .ref 999), (1, .ref 0), (2, .ref 3), (3, .ref 36), (4, .int v4)] [] (lay M) k0 n0 := by
  intro F
  induction F with
  | zero =>
    intro k0 n0 _ _ v4 M hyp
    have h2 : (none : Option (Int32 × Me)) = some r := hyp
    cases h2
  | succ F ih =>
    intro k0 n0 hk hn v4 M hyp
    exact q_L_law_b23 (by omega) (by omega) hr xs L (L_law_L23 xs L F) (fun v4 M h => ih (k0 + 5) (n0 + 30) (by omega) (by omega) v4 M h) v4 M hyp
