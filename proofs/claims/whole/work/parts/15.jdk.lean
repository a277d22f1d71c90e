def y_J_fillI : ab_Y0 := (⟨"java/util/Arrays", "fill", "([II)V"⟩, prog_16_method_103_code, 4, none, none)
theorem d_J_fillI_0 : decode prog_16_method_103_code 0 = .ok (.iconst 0, 1) := by decide +kernel
theorem d_J_fillI_1 : decode prog_16_method_103_code 1 = .ok (.istore_n 2, 1) := by decide +kernel
theorem d_J_fillI_2 : decode prog_16_method_103_code 2 = .ok (.aload_n 0, 1) := by decide +kernel
theorem d_J_fillI_3 : decode prog_16_method_103_code 3 = .ok (.arraylength, 1) := by decide +kernel
theorem d_J_fillI_4 : decode prog_16_method_103_code 4 = .ok (.istore_n 3, 1) := by decide +kernel
theorem d_J_fillI_5 : decode prog_16_method_103_code 5 = .ok (.iload_n 2, 1) := by decide +kernel
theorem d_J_fillI_6 : decode prog_16_method_103_code 6 = .ok (.iload_n 3, 1) := by decide +kernel
theorem d_J_fillI_7 : decode prog_16_method_103_code 7 = .ok (.if_icmp .ge 13, 3) := by decide +kernel
theorem d_J_fillI_10 : decode prog_16_method_103_code 10 = .ok (.aload_n 0, 1) := by decide +kernel
theorem d_J_fillI_11 : decode prog_16_method_103_code 11 = .ok (.iload_n 2, 1) := by decide +kernel
theorem d_J_fillI_12 : decode prog_16_method_103_code 12 = .ok (.iload_n 1, 1) := by decide +kernel
theorem d_J_fillI_13 : decode prog_16_method_103_code 13 = .ok (.iastore, 1) := by decide +kernel
theorem d_J_fillI_14 : decode prog_16_method_103_code 14 = .ok (.iinc 2 1, 3) := by decide +kernel
theorem d_J_fillI_17 : decode prog_16_method_103_code 17 = .ok (.goto (-12), 3) := by decide +kernel
theorem d_J_fillI_20 : decode prog_16_method_103_code 20 = .ok (.return_, 1) := by decide +kernel
theorem ok_J_fillI : ab_okS y_J_fillI 2 := ⟨wd_133, wd_42, ⟨by decide +kernel, by decide +kernel⟩, by decide +kernel, wd_132⟩
def y_J_fillL : ab_Y0 := (⟨"java/util/Arrays", "fill", "([JJ)V"⟩, prog_16_method_101_code, 5, none, none)
theorem d_J_fillL_0 : decode prog_16_method_101_code 0 = .ok (.iconst 0, 1) := by decide +kernel
theorem d_J_fillL_1 : decode prog_16_method_101_code 1 = .ok (.istore_n 3, 1) := by decide +kernel
theorem d_J_fillL_2 : decode prog_16_method_101_code 2 = .ok (.aload_n 0, 1) := by decide +kernel
theorem d_J_fillL_3 : decode prog_16_method_101_code 3 = .ok (.arraylength, 1) := by decide +kernel
theorem d_J_fillL_4 : decode prog_16_method_101_code 4 = .ok (.istore 4, 2) := by decide +kernel
theorem d_J_fillL_6 : decode prog_16_method_101_code 6 = .ok (.iload_n 3, 1) := by decide +kernel
theorem d_J_fillL_7 : decode prog_16_method_101_code 7 = .ok (.iload 4, 2) := by decide +kernel
theorem d_J_fillL_9 : decode prog_16_method_101_code 9 = .ok (.if_icmp .ge 13, 3) := by decide +kernel
theorem d_J_fillL_12 : decode prog_16_method_101_code 12 = .ok (.aload_n 0, 1) := by decide +kernel
theorem d_J_fillL_13 : decode prog_16_method_101_code 13 = .ok (.iload_n 3, 1) := by decide +kernel
theorem d_J_fillL_14 : decode prog_16_method_101_code 14 = .ok (.lload_n 1, 1) := by decide +kernel
theorem d_J_fillL_15 : decode prog_16_method_101_code 15 = .ok (.lastore, 1) := by decide +kernel
theorem d_J_fillL_16 : decode prog_16_method_101_code 16 = .ok (.iinc 3 1, 3) := by decide +kernel
theorem d_J_fillL_19 : decode prog_16_method_101_code 19 = .ok (.goto (-13), 3) := by decide +kernel
theorem d_J_fillL_22 : decode prog_16_method_101_code 22 = .ok (.return_, 1) := by decide +kernel
theorem ok_J_fillL : ab_okS y_J_fillL 2 := ⟨wd_575, wd_42, ⟨by decide +kernel, by decide +kernel⟩, by decide +kernel, wd_574⟩
theorem mx_code : Cond.code Lib.Math.max.name Lib.Math.max.code 2 (some .int) ∈ ab_G := ab_Gi 349 (by decide +kernel) (by decide +kernel)
theorem mx_stat : Cond.static Lib.Math.max.name ∈ ab_G := wd_348
theorem mx_init : Cond.initialized "java/lang/Math" ∈ ab_G := wd_51
section JDKR
variable {κ : ab_K} {ad : Nat → Nat} {k n pc idx : Nat} {lo : List (Nat × Value)} {st : List Value} {h : ab_H}
theorem ab_mmax {x y : Int32} (pc' : Nat) (hd : decode κ.2.1.2.1 pc = .ok (.invokestatic idx, 3)) (hlk : Cond.methodLink κ.2.1.1.cls idx Lib.Math.max.name ∈ ab_G) (kk : ab_V κ ad pc' lo (.int (if x < y then y else x) :: st) h k n)
    (hf : Nat.ble 1 κ.2.2.1.frames = true := by rfl) (hlo : Nat.ble ((st.map fun v => v.category).sum + 13) κ.2.2.1.locals = true := by rfl) (hc : Nat.ble k κ.2.2.1.cells = true := by rfl) (hs : Nat.ble n κ.2.2.1.slots = true := by rfl) (hp : pc + 3 = pc' := by rfl) : ab_V κ ad pc lo (.int y :: .int x :: st) h k n := by
  subst hp
  intro p e s m args below meth c H locs ls N tb w hS hl
  have ok := N.2.2.2.2.2.1
  exact va_mmax N.1 N.2.1 (N.2.2.2.1.trans hl.1.symm) N.2.2.2.2.1 (ok _ hlk) (ok _ mx_stat) (ok _ mx_init) (ok _ mx_code) (Nat.le_of_ble_eq_true hf) (by rw [ab_cats]; exact Nat.le_of_ble_eq_true hlo) (Nat.le_of_ble_eq_true hc) (Nat.le_of_ble_eq_true hs) hd (kk p e s m args below meth c H locs ls N tb w hS hl)
end JDKR
def rm_J_fillI : Room := { frames := 0, locals := 0, cells := 0, slots := 0 }
def rm_J_fillL : Room := { frames := 0, locals := 0, cells := 0, slots := 0 }
theorem ab_gs {h : ab_H} {a : Nat} {e x : ab_E} (he : h[a]? = some e) : (h.set a x)[a]? = some x := by
  rw [List.getElem?_set_self]
  exact (List.getElem?_eq_some_iff.mp he).1
theorem ab_upI {f : Nat → Int32} {v : Int32} {i : Nat} (hi : i < 2147483648) : upd (fun j => if j < i then v else f j) (Int32.ofNat i).toNatClampNeg v = fun j => if j < i + 1 then v else f j := by
  funext j
  unfold upd
  rw [of_cl hi]
  by_cases h1 : j = i
  · rw [if_pos h1, if_pos (by omega)]
  · rw [if_neg h1]
    show (if j < i then v else f j) = _
    by_cases h2 : j < i
    · rw [if_pos h2, if_pos (by omega)]
    · rw [if_neg h2, if_neg (by omega)]
theorem ab_upL {f : Nat → Int64} {v : Int64} {i : Nat} (hi : i < 2147483648) : vp_updL (fun j => if j < i then v else f j) (Int32.ofNat i).toNatClampNeg v = fun j => if j < i + 1 then v else f j := by
  funext j
  unfold vp_updL
  rw [of_cl hi]
  by_cases h1 : j = i
  · rw [if_pos h1, if_pos (by omega)]
  · rw [if_neg h1]
    show (if j < i then v else f j) = _
    by_cases h2 : j < i
    · rw [if_pos h2, if_pos (by omega)]
    · rw [if_neg h2, if_neg (by omega)]
theorem q_J_fillI {l : Launch} {D : va_G} {B : Nat} {ad : Nat → Nat} {h : ab_H} {a N : Nat} {f : Nat → Int32} {v : Int32} (he : h[a]? = some (.inl (.int, N, .inl f))) (hN : N < 2147483648) : ∀ (d i : Nat), i + d = N →
    ab_V (ab_km l D B ad y_J_fillI rm_J_fillI (.ok none) (h.set a (.inl (.int, N, .inl (fun j => if j < N then v else f j))))) ad 5 [(0, .ref a), (1, .int v), (2, .int (Int32.ofNat i)), (3, .int (Int32.ofNat N))] [] (h.set a (.inl (.int, N, .inl (fun j => if j < i then v else f j)))) 0 0 := by
  intro d
  induction d with
  | zero =>
    intro i hi
    have hi2 : i = N := by omega
    subst hi2
    refine ab_iload_n 6 d_J_fillI_5 rfl ?_
    refine ab_iload_n 7 d_J_fillI_6 rfl ?_
    refine ab_ic_ge 20 10 d_J_fillI_7 (fun z => ?_) (fun z => absurd (Int32.le_refl _) z)
    exact ab_return d_J_fillI_20 rfl rfl rfl (Nat.le_refl _) (Nat.le_refl _)
  | succ d ih =>
    intro i hi
    refine ab_iload_n 6 d_J_fillI_5 rfl ?_
    refine ab_iload_n 7 d_J_fillI_6 rfl ?_
    refine ab_ic_ge 20 10 d_J_fillI_7 (fun z => absurd ((of_le hN (by omega)).mp z) (by omega)) (fun z => ?_)
    refine ab_aload_n 11 d_J_fillI_10 rfl ?_
    refine ab_iload_n 12 d_J_fillI_11 rfl ?_
    refine ab_iload_n 13 d_J_fillI_12 rfl ?_
    refine ab_iast 14 d_J_fillI_13 (ab_gs he) (inb_in (inb_of (n := N) (by omega) (by omega))) (by rw [List.set_set, ab_upI (by omega)]) ?_
    refine ab_iinc 17 [(2, _), (0, _), (1, _), (3, _)] d_J_fillI_14 (1 : Int32) (by decide) rfl rfl ?_
    refine ab_goto 5 d_J_fillI_17 ?_
    refine ab_pick [1, 2, 0, 3] [(0, _), (1, _), (2, _), (3, _)] rfl ?_
    rw [of_s]
    exact ih (i + 1) (by omega)
theorem c_J_fillIh {h : ab_H} {a N : Nat} {f : Nat → Int32} {v : Int32} (he : h[a]? = some (.inl (.int, N, .inl f))) (hN : N < 2147483648) : ab_Met y_J_fillI rm_J_fillI [.ref a, .int v] h (.ok none) (h.set a (.inl (.int, N, .inl (fun j => if j < N then v else f j)))) := by
  refine ab_start rfl rfl (Nat.le_of_ble_eq_true rfl) (fun l D B ad => ?_)
  show ab_V _ ad 0 [(0, .ref a), (1, .int v)] [] _ 0 0
  refine ab_iconst 1 d_J_fillI_0 (0 : Int32) (by decide) ?_
  refine ab_istore_n 2 [(2, _), (0, _), (1, _)] d_J_fillI_1 rfl ?_
  refine ab_aload_n 3 d_J_fillI_2 rfl ?_
  refine ab_alen 4 d_J_fillI_3 he rfl ?_
  refine ab_istore_n 5 [(3, _), (2, _), (0, _), (1, _)] d_J_fillI_4 rfl ?_
  refine ab_pick [2, 3, 1, 0] [(0, _), (1, _), (2, _), (3, _)] rfl ?_
  have h0 : h.set a (.inl (.int, N, .inl (fun j => if j < 0 then v else f j))) = h := by
    apply List.ext_getElem?
    intro i
    by_cases hi : a = i
    · subst hi
      rw [List.getElem?_set_self (List.getElem?_eq_some_iff.mp he).1, he]
      simp
    · rw [List.getElem?_set_ne hi]
  have h1 := q_J_fillI (l := l) (D := D) (B := B) (ad := ad) (v := v) he hN N 0 (by omega)
  rw [h0] at h1
  exact h1
theorem q_J_fillL {l : Launch} {D : va_G} {B : Nat} {ad : Nat → Nat} {h : ab_H} {a N : Nat} {f : Nat → Int64} {v : Int64} (he : h[a]? = some (.inl (.long, N, .inr (.inl f)))) (hN : N < 2147483648) : ∀ (d i : Nat), i + d = N →
    ab_V (ab_km l D B ad y_J_fillL rm_J_fillL (.ok none) (h.set a (.inl (.long, N, .inr (.inl (fun j => if j < N then v else f j)))))) ad 6 [(0, .ref a), (1, .long v), (3, .int (Int32.ofNat i)), (4, .int (Int32.ofNat N))] [] (h.set a (.inl (.long, N, .inr (.inl (fun j => if j < i then v else f j))))) 0 0 := by
  intro d
  induction d with
  | zero =>
    intro i hi
    have hi2 : i = N := by omega
    subst hi2
    refine ab_iload_n 7 d_J_fillL_6 rfl ?_
    refine ab_iload 9 d_J_fillL_7 rfl ?_
    refine ab_ic_ge 22 12 d_J_fillL_9 (fun z => ?_) (fun z => absurd (Int32.le_refl _) z)
    exact ab_return d_J_fillL_22 rfl rfl rfl (Nat.le_refl _) (Nat.le_refl _)
  | succ d ih =>
    intro i hi
    refine ab_iload_n 7 d_J_fillL_6 rfl ?_
    refine ab_iload 9 d_J_fillL_7 rfl ?_
    refine ab_ic_ge 22 12 d_J_fillL_9 (fun z => absurd ((of_le hN (by omega)).mp z) (by omega)) (fun z => ?_)
    refine ab_aload_n 13 d_J_fillL_12 rfl ?_
    refine ab_iload_n 14 d_J_fillL_13 rfl ?_
    refine ab_lload_n 15 d_J_fillL_14 rfl ?_
    refine ab_last 16 d_J_fillL_15 (ab_gs he) (inb_in (inb_of (n := N) (by omega) (by omega))) (by rw [List.set_set, ab_upL (by omega)]) ?_
    refine ab_iinc 19 [(3, _), (0, _), (1, _), (4, _)] d_J_fillL_16 (1 : Int32) (by decide) rfl rfl ?_
    refine ab_goto 6 d_J_fillL_19 ?_
    refine ab_pick [1, 2, 0, 3] [(0, _), (1, _), (3, _), (4, _)] rfl ?_
    rw [of_s]
    exact ih (i + 1) (by omega)
theorem c_J_fillLh {h : ab_H} {a N : Nat} {f : Nat → Int64} {v : Int64} (he : h[a]? = some (.inl (.long, N, .inr (.inl f)))) (hN : N < 2147483648) : ab_Met y_J_fillL rm_J_fillL [.ref a, .long v] h (.ok none) (h.set a (.inl (.long, N, .inr (.inl (fun j => if j < N then v else f j))))) := by
  refine ab_start rfl rfl (Nat.le_of_ble_eq_true rfl) (fun l D B ad => ?_)
  show ab_V _ ad 0 [(0, .ref a), (1, .long v)] [] _ 0 0
  refine ab_iconst 1 d_J_fillL_0 (0 : Int32) (by decide) ?_
  refine ab_istore_n 2 [(3, _), (0, _), (1, _)] d_J_fillL_1 rfl ?_
  refine ab_aload_n 3 d_J_fillL_2 rfl ?_
  refine ab_alen 4 d_J_fillL_3 he rfl ?_
  refine ab_istore 6 [(4, _), (3, _), (0, _), (1, _)] d_J_fillL_4 rfl ?_
  refine ab_pick [2, 3, 1, 0] [(0, _), (1, _), (3, _), (4, _)] rfl ?_
  have h0 : h.set a (.inl (.long, N, .inr (.inl (fun j => if j < 0 then v else f j)))) = h := by
    apply List.ext_getElem?
    intro i
    by_cases hi : a = i
    · subst hi
      rw [List.getElem?_set_self (List.getElem?_eq_some_iff.mp he).1, he]
      simp
    · rw [List.getElem?_set_ne hi]
  have h1 := q_J_fillL (l := l) (D := D) (B := B) (ad := ad) (v := v) he hN N 0 (by omega)
  rw [h0] at h1
  exact h1
theorem c_J_fillI8 (M : Me) (v : Int32) : ab_Met y_J_fillI rm_J_fillI [.ref 13, .int v] (lay M) (.ok none) (lay (fI M 8 24 v)) := c_J_fillIh (h := lay M) (a := 13) (N := 24) (f := M.1 8) (v := v) rfl (by omega)
theorem c_J_fillL2 (M : Me) (v : Int64) : ab_Met y_J_fillL rm_J_fillL [.ref 31, .long v] (lay M) (.ok none) (lay (fL M 2 32 v)) := c_J_fillLh (h := lay M) (a := 31) (N := 32) (f := M.2.1 2) (v := v) rfl (by omega)

