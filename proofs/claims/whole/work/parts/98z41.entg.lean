/-! WHAT THE START GIVES: texts, statics, script -/
def z00 (adK adV : Nat → Nat) (r0 r1 r2 r3 b L : Nat) (xs : Nat → Int32) (i : Nat) : Nat := if i < 100 then adK i else if i < 200 then adV (i - 100) else if i = 200 then r0 else if i = 201 then r1 else if i = 202 then r2 else if i = 203 then r3 else if i = 300 then b else if i = 301 then L else (xs (i - 400)).toBitVec.toNat
set_option maxHeartbeats 4000000 in
set_option maxRecDepth 100000 in
theorem en_G {s : State} {b L : Nat} {xs : Nat → Int32} {A : Nat → Prop} (hts : ∀ w ∈ lw_tbl, w.before #[Value.ref b] s = true) (hgv : (Jvm.Cond.and given_1 narrow_1).before #[Value.ref b] s = true) (hX : va_X b L xs s s.heap) (hL : L ≤ 3072) (hb : b < s.heap.size) (hA : ∀ a : Nat, a < s.heap.size → ¬ A a) : ∃ z : Nat → Nat, z 300 = b ∧ z 301 = L ∧ ∀ (D : va_G) (cA : Nat → ClassId), Gx (D, cA, z) A s s.heap := by
  have hn : ∀ w ∈ nL, w.before #[Value.ref b] s = true := flat_of_before _ hgv
  obtain ⟨adK, adV, hS, hE⟩ := vk_Sof (tm := tmS) (len := lenS) (byt := bytS) (A := A) en_l31 (fun i hi => hn _ (en_ex i hi)) (fun i hi => hn _ (en_co i hi)) (fun i hi => hn _ (en_ar i hi)) (fun i hi => hn _ (en_le i hi)) (fun i hi j hj => hn _ (en_el i hi j hj)) (fun i j hi hj h => (Nat.lt_or_gt_of_ne h).elim (fun z => Or.inl (hn _ (en_ne i hi j hj z))) (fun z => Or.inr (hn _ (en_ne j hj i hi z)))) hA
  obtain ⟨l1, l2, l3, l4⟩ := en_st ("RULE_LEAST", [1, 0, 0, 0, 0, 0]) (by simp)
  obtain ⟨m1, m2, m3, m4⟩ := en_st ("RULE_MOST", [4, 28, 20, 20, 9, 100]) (by simp)
  obtain ⟨u1, u2, u3, u4⟩ := en_st ("RULE_UNTOLD", [2, 12, 2, 1, 1, 0]) (by simp)
  obtain ⟨r0, v0, t0⟩ := va_Tof (N := 6) (f := fun j => .int (ruL j)) (by decide) (hn _ l2) (va_eqt (hn _ l3)) (fun j hj => va_eqt (hn _ (l4 j hj))) hA
  obtain ⟨r1, v1, t1⟩ := va_Tof (N := 6) (f := fun j => .int (ruM j)) (by decide) (hn _ m2) (va_eqt (hn _ m3)) (fun j hj => va_eqt (hn _ (m4 j hj))) hA
  obtain ⟨r2, v2, t2⟩ := va_Tof (N := 6) (f := fun j => .int (ruU j)) (by decide) (hn _ u2) (va_eqt (hn _ u3)) (fun j hj => va_eqt (hn _ (u4 j hj))) hA
  have ho : (Cond.initialized "OwnedByGuests").before #[Value.ref b] s = true := hts _ (by decide +kernel)
  have hcs := va_Zof (v := .int 1) (A := A) (hts (.laysStatic "java/lang/String" "COMPACT_STRINGS" "Z") (by decide +kernel)) (hts (.initialized "java/lang/String") (by decide +kernel)) (va_eqi (hn (.eq (.static "java/lang/String" "COMPACT_STRINGS" "Z") (.int 1)) (by decide +kernel))) hA
  obtain ⟨r3, hsf⟩ : ∃ r3, va_Z "jdk/internal/util/Preconditions" "SIOOBE_FORMATTER" "Ljava/util/function/BiFunction;" (sfV r3) A s s.heap := by
    have hr := hn (.isRef (.static "jdk/internal/util/Preconditions" "SIOOBE_FORMATTER" "Ljava/util/function/BiFunction;")) (by decide +kernel)
    have h1 := hts (.laysStatic "jdk/internal/util/Preconditions" "SIOOBE_FORMATTER" "Ljava/util/function/BiFunction;") (by decide +kernel)
    have h2 := hts (.initialized "jdk/internal/util/Preconditions") (by decide +kernel)
    cases hv : (Term.static "jdk/internal/util/Preconditions" "SIOOBE_FORMATTER" "Ljava/util/function/BiFunction;").eval #[Value.ref b] s none [] s with
    | none => simp [Cond.before, Cond.holds, Cond.value, hv] at hr
    | some v =>
      cases v with
      | null => exact ⟨0, va_Zof h1 h2 hv hA⟩
      | ref n => exact ⟨n + 1, va_Zof h1 h2 hv hA⟩
      | _ => simp [Cond.before, Cond.holds, Cond.value, hv] at hr
  obtain ⟨scr, x1, x2, x3, x4, x5⟩ := hX
  have hs : va_T .int b L (fun j => .int (nI (xs j).toBitVec.toNat)) A s s.heap := ⟨scr, x1, x2, x3, Nat.le_of_eq x4.symm, by rw [x4], fun j hj => by show _ = some (Value.int (nI (xs j).toBitVec.toNat)); rw [nI_back]; exact x5 j hj, hA b hb⟩
  have zK : ∀ i, i < 12 → z00 adK adV r0 r1 r2 r3 b L xs i = adK i := fun i hi => if_pos (by omega)
  have zV : ∀ i, i < 12 → z00 adK adV r0 r1 r2 r3 b L xs (100 + i) = adV i := fun i hi => by
    rw [z00, if_neg (by omega), if_pos (by omega), Nat.add_sub_cancel_left]
  have zX : ∀ j, z00 adK adV r0 r1 r2 r3 b L xs (400 + j) = (xs j).toBitVec.toNat := fun j => by
    rw [z00, if_neg (by omega), if_neg (by omega), if_neg (by omega), if_neg (by omega), if_neg (by omega), if_neg (by omega), if_neg (by omega), if_neg (by omega), Nat.add_sub_cancel_left]
  refine ⟨z00 adK adV r0 r1 r2 r3 b L xs, rfl, rfl, fun D cA => ⟨⟨fun i hi => ?_, fun i j hi hj e => hS.2 i j hi hj (by rw [← zK i hi, ← zK j hj]; exact e)⟩, fun q hq => ?_, hcs, hsf, ⟨va_Zref (hts _ l1) ho v0 hA, t0⟩, ⟨va_Zref (hts _ m1) ho v1 hA, t1⟩, ⟨va_Zref (hts _ u1) ho v2 hA, t2⟩, fun a i x h z => va_Nw.of rfl (hts _ z), fun a i b n d h z => va_Nw.of rfl (hts _ z), va_AO.of (hts (.arrayOver (.object "OwnedByGuests$Course")) (by decide +kernel)), va_AO.of (hts (.arrayOver (.object "OwnedByGuests$Scene")) (by decide +kernel)), ?_⟩⟩
  · have h0 := hS.1 i hi
    rw [← zK i hi, ← zV i hi] at h0
    exact h0
  · obtain ⟨h1, h2⟩ := en_tm q hq
    have h3 := hE _ h1
    show vk_R q.1 q.2.1 (txS q.2.2) (z00 adK adV r0 r1 r2 r3 b L xs q.2.2) s
    rw [zK _ h1]
    rcases h2 with h2 | h2
    · exact vk_R.of (hts _ (en_sr q hq)) (by rw [h2]; exact h3)
    · exact vk_R.of (hts _ (en_sr q hq)) (va_eqR (hn _ h2) h3)
  · show va_T .int b L (fun j => .int (nI (z00 adK adV r0 r1 r2 r3 b L xs (400 + j)))) A s s.heap
    rw [show (fun j => Value.int (nI (z00 adK adV r0 r1 r2 r3 b L xs (400 + j)))) = (fun j => .int (nI (xs j).toBitVec.toNat)) from funext fun j => by rw [zX]]
    exact hs
