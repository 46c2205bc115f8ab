/-! WHAT THE START GIVES -/
def nL : List Cond := flatC (Jvm.Cond.and given_1 narrow_1)
def tmS (i : Nat) : Term := .string "OwnedByGuests$Teller" (strT.getD i ("", 0, 0)).2.1
theorem en_ex : ∀ i : Nat, i < 12 → Cond.exactly (tmS i) "java/lang/String" ∈ nL := by decide +kernel
theorem en_co : ∀ i : Nat, i < 12 → Cond.eq (.field (tmS i) "java/lang/String" "coder" "B") (.int 0) ∈ nL := by decide +kernel
theorem en_ar : ∀ i : Nat, i < 12 → Cond.arrayOf (.field (tmS i) "java/lang/String" "value" "[B") .byte ∈ nL := by decide +kernel
theorem en_le : ∀ i : Nat, i < 12 → Cond.eq (.length (.field (tmS i) "java/lang/String" "value" "[B")) (.int (Int32.ofNat (lenS.getD i 0))) ∈ nL := by decide +kernel
theorem en_el : ∀ i : Nat, i < 12 → ∀ j : Nat, j < lenS.getD i 0 → Cond.eq (.elem (.field (tmS i) "java/lang/String" "value" "[B") (.int (Int32.ofNat j))) (.int ((bytS.getD i []).getD j 0)) ∈ nL := by decide +kernel
theorem en_ne1 : ∀ i : Nat, i < 1 → Cond.not (Cond.eq (tmS i) (tmS 1)) ∈ nL := by decide +kernel
theorem en_ne2 : ∀ i : Nat, i < 2 → Cond.not (Cond.eq (tmS i) (tmS 2)) ∈ nL := by decide +kernel
theorem en_ne3 : ∀ i : Nat, i < 3 → Cond.not (Cond.eq (tmS i) (tmS 3)) ∈ nL := by decide +kernel
theorem en_ne4 : ∀ i : Nat, i < 4 → Cond.not (Cond.eq (tmS i) (tmS 4)) ∈ nL := by decide +kernel
theorem en_ne5 : ∀ i : Nat, i < 5 → Cond.not (Cond.eq (tmS i) (tmS 5)) ∈ nL := by decide +kernel
theorem en_ne6 : ∀ i : Nat, i < 6 → Cond.not (Cond.eq (tmS i) (tmS 6)) ∈ nL := by decide +kernel
theorem en_ne7 : ∀ i : Nat, i < 7 → Cond.not (Cond.eq (tmS i) (tmS 7)) ∈ nL := by decide +kernel
theorem en_ne8 : ∀ i : Nat, i < 8 → Cond.not (Cond.eq (tmS i) (tmS 8)) ∈ nL := by decide +kernel
theorem en_ne9 : ∀ i : Nat, i < 9 → Cond.not (Cond.eq (tmS i) (tmS 9)) ∈ nL := by decide +kernel
theorem en_ne10 : ∀ i : Nat, i < 10 → Cond.not (Cond.eq (tmS i) (tmS 10)) ∈ nL := by decide +kernel
theorem en_ne11 : ∀ i : Nat, i < 11 → Cond.not (Cond.eq (tmS i) (tmS 11)) ∈ nL := by decide +kernel
theorem en_ne : ∀ i : Nat, i < 12 → ∀ j : Nat, j < 12 → i < j → Cond.not (Cond.eq (tmS i) (tmS j)) ∈ nL := by
  intro i _ j hj h
  rcases (show j = 0 ∨ j = 1 ∨ j = 2 ∨ j = 3 ∨ j = 4 ∨ j = 5 ∨ j = 6 ∨ j = 7 ∨ j = 8 ∨ j = 9 ∨ j = 10 ∨ j = 11 by omega) with rfl | rfl | rfl | rfl | rfl | rfl | rfl | rfl | rfl | rfl | rfl | rfl
  · exact absurd h (Nat.not_lt_zero _)
  · exact en_ne1 i h
  · exact en_ne2 i h
  · exact en_ne3 i h
  · exact en_ne4 i h
  · exact en_ne5 i h
  · exact en_ne6 i h
  · exact en_ne7 i h
  · exact en_ne8 i h
  · exact en_ne9 i h
  · exact en_ne10 i h
  · exact en_ne11 i h
theorem en_sr : ∀ q ∈ strT, Cond.stringRef q.1 q.2.1 (txS q.2.2) ∈ lw_tbl := by decide +kernel
theorem en_tm : ∀ q ∈ strT, q.2.2 < 12 ∧ (Term.string q.1 q.2.1 = tmS q.2.2 ∨ Cond.eq (tmS q.2.2) (.string q.1 q.2.1) ∈ nL) := by decide +kernel
theorem en_l31 : ∀ i : Nat, i < 12 → lenS.getD i 0 < 2 ^ 31 := by decide +kernel
def stN (n : String) : Term := .static "OwnedByGuests" n "[I"
theorem en_st : ∀ q ∈ [("RULE_LEAST", [1, 0, 0, 0, 0, 0]), ("RULE_MOST", [4, 28, 20, 20, 9, 100]), ("RULE_UNTOLD", ([2, 12, 2, 1, 1, 0] : List Int32))], Cond.laysStatic "OwnedByGuests" q.1 "[I" ∈ lw_tbl ∧ Cond.arrayOf (stN q.1) .int ∈ nL ∧ Cond.eq (.length (stN q.1)) (.int (Int32.ofNat 6)) ∈ nL ∧ ∀ j : Nat, j < 6 → Cond.eq (.elem (stN q.1) (.int (Int32.ofNat j))) (.int (q.2.getD j 0)) ∈ nL := by decide +kernel
set_option maxHeartbeats 4000000 in
set_option maxRecDepth 100000 in
theorem en_K {s : State} {args : Array Value} (hts : ∀ w ∈ lw_tbl, w.before args s = true) : ∃ (D : va_G) (cA : Nat → ClassId), ∀ z : Nat → Nat, va_K D vwCl (tysE (D, cA, z)) s := by
  have hw : ∀ w ∈ tbW, w.before args s = true := fun w h => hts w (tbW_in h)
  obtain ⟨c0, i0, k0⟩ := u_known (C := RX0) (T := TX0) (N := 3) (n := 3) hw inX0 (hts (.instantiable RX0 3) (by decide +kernel))
  obtain ⟨c1, i1, k1⟩ := u_known (C := RX1) (T := TX1) (N := 5) (n := 5) hw inX1 (hts (.instantiable RX1 5) (by decide +kernel))
  obtain ⟨c2, i2, k2⟩ := u_known (C := RX2) (T := TX2) (N := 6) (n := 6) hw inX2 (hts (.instantiable RX2 6) (by decide +kernel))
  obtain ⟨c3, i3, k3⟩ := u_known (C := RX3) (T := TX3) (N := 7) (n := 7) hw inX3 (hts (.instantiable RX3 7) (by decide +kernel))
  obtain ⟨c4, i4, k4⟩ := u_known (C := RX4) (T := TX4) (N := 7) (n := 7) hw inX4 (hts (.instantiable RX4 7) (by decide +kernel))
  obtain ⟨c5, i5, k5⟩ := u_known (C := RX5) (T := TX5) (N := 4) (n := 4) hw inX5 (hts (.instantiable RX5 4) (by decide +kernel))
  obtain ⟨c6, i6, k6⟩ := u_known (C := RX6) (T := TX6) (N := 13) (n := 13) hw inX6 (hts (.instantiable RX6 13) (by decide +kernel))
  obtain ⟨c7, i7, k7⟩ := u_known (C := RX7) (T := TX7) (N := 16) (n := 16) hw inX7 (hts (.instantiable RX7 16) (by decide +kernel))
  obtain ⟨c8, i8, k8⟩ := u_known (C := RX8) (T := TX8) (N := 2) (n := 2) hw inX8 (hts (.instantiable RX8 2) (by decide +kernel))
  obtain ⟨c9, i9, k9⟩ := u_known (C := RX9) (T := TX9) (N := 9) (n := 9) hw inX9 (hts (.instantiable RX9 9) (by decide +kernel))
  obtain ⟨c10, i10, k10⟩ := u_known (C := RX10) (T := TX10) (N := 61) (n := 61) hw inX10 (hts (.instantiable RX10 61) (by decide +kernel))
  obtain ⟨a0, b0, d0, e0, f0, g0⟩ := Cond.arrayClass_spec (type := .int) (hts (.arrayClass .int) (by decide +kernel))
  obtain ⟨a1, b1, d1, e1, f1, g1⟩ := Cond.arrayClass_spec (type := .long) (hts (.arrayClass .long) (by decide +kernel))
  obtain ⟨a2, b2, d2, e2, f2, g2⟩ := Cond.arrayClass_spec (type := .byte) (hts (.arrayClass .byte) (by decide +kernel))
  obtain ⟨a3, b3, d3, e3, f3, g3⟩ := Cond.arrayClass_spec (type := .boolean) (hts (.arrayClass .boolean) (by decide +kernel))
  obtain ⟨d4, a4, b4, h4, -, f4, g4, e4⟩ := Cond.arrayOver_spec (n := "OwnedByGuests$Course") (hts (.arrayOver (.object "OwnedByGuests$Course")) (by decide +kernel))
  obtain ⟨d5, a5, b5, h5, -, f5, g5, e5⟩ := Cond.arrayOver_spec (n := "OwnedByGuests$Scene") (hts (.arrayOver (.object "OwnedByGuests$Scene")) (by decide +kernel))
  refine ⟨(fun k => [c0, c1, c2, c3, c4, c5, c6, c7, c8, c9, c10].getD k c0, fun k => [i0, i1, i2, i3, i4, i5, i6, i7, i8, i9, i10].getD k i0), fun j => [a0, a1, a2, a3, a4, a5].getD j a0, fun z => ⟨?_, ?_⟩⟩
  · intro k q hq
    match k, hq with
    | 0, hq => cases hq; exact k0
    | 1, hq => cases hq; exact k1
    | 2, hq => cases hq; exact k2
    | 3, hq => cases hq; exact k3
    | 4, hq => cases hq; exact k4
    | 5, hq => cases hq; exact k5
    | 6, hq => cases hq; exact k6
    | 7, hq => cases hq; exact k7
    | 8, hq => cases hq; exact k8
    | 9, hq => cases hq; exact k9
    | 10, hq => cases hq; exact k10
    | k + 11, hq => exact absurd (List.getElem?_eq_some_iff.mp hq).1 (by show ¬ (k + 11 < 11); omega)
  · intro k q hq
    match k, hq with
    | 0, hq => cases hq; exact ⟨fun n z => ⟨fun k h => (by cases h), b0, f0, d0, g0⟩, e0⟩
    | 1, hq => cases hq; exact ⟨fun n z => ⟨fun k h => (by cases h), b1, f1, d1, g1⟩, e1⟩
    | 2, hq => cases hq; exact ⟨fun n z => ⟨fun k h => (by cases h), b2, f2, d2, g2⟩, e2⟩
    | 3, hq => cases hq; exact ⟨fun n z => ⟨fun k h => (by cases h), b3, f3, d3, g3⟩, e3⟩
    | 4, hq => cases hq; exact ⟨fun n z => ⟨fun k h => (by cases h), b4, f4, d4, g4⟩, b4, d4, f4, g4, h4, e4⟩
    | 5, hq => cases hq; exact ⟨fun n z => ⟨fun k h => (by cases h), b5, f5, d5, g5⟩, b5, d5, f5, g5, h5, e5⟩
    | k + 6, hq => exact absurd (List.getElem?_eq_some_iff.mp hq).1 (by show ¬ (k + 6 < 6); omega)
theorem nI_back (x : Int32) : nI x.toBitVec.toNat = x := by
  show Int32.ofNat x.toBitVec.toNat = x
  apply Int32.toBitVec_inj.mp
  simp [Int32.toBitVec_ofNat']
