/-! THE REFERENCE: clauses -/
def mrO (ad r : Nat → Nat) (i : Nat → Int32) (len p vl : Nat) (got : Int32) (V : Vil) (X : Vix) (f : Nat) (fa : Int32) (T : Nat → Nat) : va_E := .inr (10, [.ref (ad 1), .int (i 1), .int (nI len), .int (nI (tkS T len p)), .int (nI (tkE T len p)), .int (nI (tkH T len p)), .int (nI vl), .int (got), .int (nI f), .int (fa), .int (i 10), .int (i 11), .int (i 12), .int (nI (nhV V)), .int (nI (npV V)), .int (X.1), .int (X.2.1), .int (i 17), .int (bI (laV V)), .ref (r 19), .ref (ad 2), .ref (r 21), .ref (r 22), .ref (r 23), .ref (r 24), .ref (r 25), .ref (r 26), .ref (r 27), .ref (ad 3), .ref (ad 4), .ref (ad 5), .ref (ad 6), .ref (ad 7), .ref (ad 8), .ref (ad 9), .ref (ad 10), .ref (ad 11), .int (X.2.2.1), .ref (r 38), .ref (r 39), .int (i 40), .int (i 41), .int (i 42), .int (i 43), .int (i 44), .int (i 45), .ref (r 46), .ref (r 47), .ref (r 48), .ref (r 49), .ref (r 50), .ref (r 51), .int (i 52), .int (i 53), .ref (r 54), .int (i 55), .int (i 56), .ref (r 57), .ref (r 58), .ref (r 59), .int (i 60)])
/-- object, tape, what is read: the token from p on is in hand -/
def mrC (E : EnvT) (ad r : Nat → Nat) (i : Nat → Int32) (len : Nat) (T : Nat → Nat) (p vl : Nat) (got : Int32) (V : Vil) (X : Vix) (f : Nat) (fa : Int32) : List va_E := [mrO ad r i len p vl got V X f fa T, aB E 900 (fun k => sb (T k)), aI E 6 (ruV V), aI E 5 X.2.2.2.2.1, aI E 5 (woV V), aI E 5 X.2.2.2.2.2.1, aI E 5 (fun k => cl (owV V k)), aI E 5 (fun k => cl (hoV V k)), aI E 5 (wkV V), aI E 25 (tiV V), aJ E 5 X.2.2.2.1, aJ E 5 X.2.2.2.2.2.2]
def rR (ad r : Nat → Nat) (k : Nat) : Nat := if k = 20 then ad 2 else if k = 28 then ad 3 else if k = 29 then ad 4 else if k = 30 then ad 5 else if k = 31 then ad 6 else if k = 32 then ad 7 else if k = 33 then ad 8 else if k = 34 then ad 9 else if k = 35 then ad 10 else if k = 36 then ad 11 else r k
def iR (V : Vil) (X : Vix) (i : Nat → Int32) (k : Nat) : Int32 := if k = 13 then nI (nhV V) else if k = 14 then nI (npV V) else if k = 15 then X.1 else if k = 16 then X.2.1 else if k = 37 then X.2.2.1 else if k = 18 then bI (laV V) else i k
/-- token, value, got, what is read, fault, its place -/
abbrev Rst (len : Nat) : Type := Fin (len + 1) × Nat × Int32 × Vil × Vix × Nat × Int32
def mrP (E : EnvT) (ad r : Nat → Nat) (i : Nat → Int32) (len : Nat) (T : Nat → Nat) (z : Rst len) : List va_E := mrC E ad r i len T z.1.1 z.2.1 z.2.2.1 z.2.2.2.1 z.2.2.2.2.1 z.2.2.2.2.2.1 z.2.2.2.2.2.2
theorem mrP_le {E E2 : EnvT} {ad r ad2 r2 : Nat → Nat} {i i2 : Nat → Int32} {len len2 : Nat} {T T2 : Nat → Nat} {z : Rst len} {z2 : Rst len2} : (mrP E ad r i len T z).length ≤ (mrP E2 ad2 r2 i2 len2 T2 z2).length := Nat.le_refl 12
def advR (T : Nat → Nat) {len : Nat} (z : Rst len) : Rst len := (nxP T len z.1, tkV T len (tkE T len z.1.1) z.2.1, z.2.2)
def badR (T : Nat → Nat) {len : Nat} (z : Rst len) (k : Nat) : Rst len := (z.1, z.2.1, z.2.2.1, z.2.2.2.1, z.2.2.2.2.1, k, nI (tkS T len z.1.1))
/-- a number read: token, value, got, fault, its place -/
def nuT (T : Nat → Nat) {len : Nat} (p : Fin (len + 1)) (vl : Nat) (got : Int32) (f : Nat) (fa : Int32) (lo hi : Int32) : Fin (len + 1) × Nat × Int32 × Nat × Int32 := if rnB T len p.1 vl lo hi then (nxP T len p, tkV T len (tkE T len p.1) vl, nI vl, f, fa) else if tkK T len p.1 = 2 then (p, vl, got, 2, nI (tkS T len p.1)) else (p, vl, got, 1, nI (tkS T len p.1))
theorem m_numberS (E : EnvT) (ad r : Nat → Nat) (i : Nat → Int32) (len : Nat) (p : Fin (len + 1)) (vl : Nat) (got : Int32) (f : Nat) (fa : Int32) (T : Nat → Nat) (lo hi : Int32) (hl : len ≤ 900) (hT : ∀ k, k < 900 → T k < 256) (hv : vl < 2 ^ 31) : Md E mX10_number ad [.ref (ad 0), .int lo, .int hi] (mvC E ad r i len p.1 vl got f fa T) (some (.int (bI (rnB T len p.1 vl lo hi)))) (mvC E ad r i len (nuT T p vl got f fa lo hi).1.1 (nuT T p vl got f fa lo hi).2.1 (nuT T p vl got f fa lo hi).2.2.1 (nuT T p vl got f fa lo hi).2.2.2.1 (nuT T p vl got f fa lo hi).2.2.2.2 T) := by
  have h9 := m_number E ad r i len p vl got f fa T lo hi hl hT hv
  by_cases h : rnB T len p.1 vl lo hi = true
  · have e : nuT T p vl got f fa lo hi = (nxP T len p, tkV T len (tkE T len p.1) vl, nI vl, f, fa) := if_pos h
    rw [e]
    rw [if_pos h] at h9
    exact h9
  · by_cases h3 : tkK T len p.1 = 2
    · have e : nuT T p vl got f fa lo hi = (p, vl, got, 2, nI (tkS T len p.1)) := by unfold nuT; rw [if_neg h, if_pos h3]
      rw [e]
      rw [if_neg h, if_pos h3] at h9
      exact h9
    · have e : nuT T p vl got f fa lo hi = (p, vl, got, 1, nI (tkS T len p.1)) := by unfold nuT; rw [if_neg h, if_neg h3]
      rw [e]
      rw [if_neg h, if_neg h3] at h9
      exact h9
def nuR (T : Nat → Nat) {len : Nat} (lo hi : Int32) (z : Rst len) : Rst len := ((nuT T z.1 z.2.1 z.2.2.1 z.2.2.2.2.2.1 z.2.2.2.2.2.2 lo hi).1, (nuT T z.1 z.2.1 z.2.2.1 z.2.2.2.2.2.1 z.2.2.2.2.2.2 lo hi).2.1, (nuT T z.1 z.2.1 z.2.2.1 z.2.2.2.2.2.1 z.2.2.2.2.2.2 lo hi).2.2.1, z.2.2.2.1, z.2.2.2.2.1, (nuT T z.1 z.2.1 z.2.2.1 z.2.2.2.2.2.1 z.2.2.2.2.2.2 lo hi).2.2.2)
def nuB (T : Nat → Nat) {len : Nat} (lo hi : Int32) (z : Rst len) : Bool := rnB T len z.1.1 z.2.1 lo hi
theorem vlF_lt (T : Nat → Nat) (hT : ∀ k, k < 900 → T k < 256) (s : Nat) : True := trivial
def usR (k : Nat) : Int32 := ruU k
set_option maxHeartbeats 4000000 in
set_option maxRecDepth 100000 in
theorem m_usual (E : EnvT) (ad : Nat → Nat) (k : Nat) (hk : k < 6) : Md E mX10_usual ad [.int (nI k)] [] (some (.int (ruU k))) [] := by
  rcases (show k = 0 ∨ k = 1 ∨ k = 2 ∨ k = 3 ∨ k = 4 ∨ k = 5 by omega) with rfl | rfl | rfl | rfl | rfl | rfl
  · refine Md.of 0 (by decide) rfl rfl ?_
    refine Tr.iload_n (i := 0) dX10_usual_0 rfl rfl (Eq.refl 1) ?_
    refine Tr.iconst (v := nI 1) dX10_usual_1 (icN 1) (Eq.refl 2) ?_
    refine Tr.icmp_ne (tgt := 10) dX10_usual_2 (by decide) (Eq.refl 5) (fun _ => ?_) (fun h => absurd h (by decide))
    refine Tr.iload_n (i := 0) dX10_usual_10 rfl rfl (Eq.refl 11) ?_
    refine Tr.iconst (v := nI 5) dX10_usual_11 (icN 5) (Eq.refl 12) ?_
    refine Tr.icmp_ne (tgt := 19) dX10_usual_12 (by decide) (Eq.refl 15) (fun _ => ?_) (fun h => absurd h (by decide))
    refine Tr.iload_n (i := 0) dX10_usual_19 rfl rfl (Eq.refl 20) ?_
    refine Tr.if_eq (tgt := 28) dX10_usual_20 (by decide) (Eq.refl 23) (fun _ => ?_) (fun h => absurd h (by decide))
    refine Tr.iconst (v := nI 2) dX10_usual_28 (icN 2) (Eq.refl 29) ?_
    refine Tr.goto (pc' := 33) dX10_usual_29 (by decide) ?_
    refine Tr.iret dX10_usual_33 rfl (by first | rfl | exact bI_nar _) ?_ ?_
    · rfl
    · rfl
  · refine Md.of 0 (by decide) rfl rfl ?_
    refine Tr.iload_n (i := 0) dX10_usual_0 rfl rfl (Eq.refl 1) ?_
    refine Tr.iconst (v := nI 1) dX10_usual_1 (icN 1) (Eq.refl 2) ?_
    refine Tr.icmp_ne (tgt := 10) dX10_usual_2 (by decide) (Eq.refl 5) (fun h => absurd h (by decide)) (fun _ => ?_)
    refine Tr.bipush (v := nI 12) dX10_usual_5 (by decide +kernel) (Eq.refl 7) ?_
    refine Tr.goto (pc' := 33) dX10_usual_7 (by decide) ?_
    refine Tr.iret dX10_usual_33 rfl (by first | rfl | exact bI_nar _) ?_ ?_
    · rfl
    · rfl
  · refine Md.of 0 (by decide) rfl rfl ?_
    refine Tr.iload_n (i := 0) dX10_usual_0 rfl rfl (Eq.refl 1) ?_
    refine Tr.iconst (v := nI 1) dX10_usual_1 (icN 1) (Eq.refl 2) ?_
    refine Tr.icmp_ne (tgt := 10) dX10_usual_2 (by decide) (Eq.refl 5) (fun _ => ?_) (fun h => absurd h (by decide))
    refine Tr.iload_n (i := 0) dX10_usual_10 rfl rfl (Eq.refl 11) ?_
    refine Tr.iconst (v := nI 5) dX10_usual_11 (icN 5) (Eq.refl 12) ?_
    refine Tr.icmp_ne (tgt := 19) dX10_usual_12 (by decide) (Eq.refl 15) (fun _ => ?_) (fun h => absurd h (by decide))
    refine Tr.iload_n (i := 0) dX10_usual_19 rfl rfl (Eq.refl 20) ?_
    refine Tr.if_eq (tgt := 28) dX10_usual_20 (by decide) (Eq.refl 23) (fun h => absurd h (by decide)) (fun _ => ?_)
    refine Tr.iload_n (i := 0) dX10_usual_23 rfl rfl (Eq.refl 24) ?_
    refine Tr.iconst (v := nI 2) dX10_usual_24 (icN 2) (Eq.refl 25) ?_
    refine Tr.icmp_ne (tgt := 32) dX10_usual_25 (by decide) (Eq.refl 28) (fun h => absurd h (by decide)) (fun _ => ?_)
    refine Tr.iconst (v := nI 2) dX10_usual_28 (icN 2) (Eq.refl 29) ?_
    refine Tr.goto (pc' := 33) dX10_usual_29 (by decide) ?_
    refine Tr.iret dX10_usual_33 rfl (by first | rfl | exact bI_nar _) ?_ ?_
    · rfl
    · rfl
  · refine Md.of 0 (by decide) rfl rfl ?_
    refine Tr.iload_n (i := 0) dX10_usual_0 rfl rfl (Eq.refl 1) ?_
    refine Tr.iconst (v := nI 1) dX10_usual_1 (icN 1) (Eq.refl 2) ?_
    refine Tr.icmp_ne (tgt := 10) dX10_usual_2 (by decide) (Eq.refl 5) (fun _ => ?_) (fun h => absurd h (by decide))
    refine Tr.iload_n (i := 0) dX10_usual_10 rfl rfl (Eq.refl 11) ?_
    refine Tr.iconst (v := nI 5) dX10_usual_11 (icN 5) (Eq.refl 12) ?_
    refine Tr.icmp_ne (tgt := 19) dX10_usual_12 (by decide) (Eq.refl 15) (fun _ => ?_) (fun h => absurd h (by decide))
    refine Tr.iload_n (i := 0) dX10_usual_19 rfl rfl (Eq.refl 20) ?_
    refine Tr.if_eq (tgt := 28) dX10_usual_20 (by decide) (Eq.refl 23) (fun h => absurd h (by decide)) (fun _ => ?_)
    refine Tr.iload_n (i := 0) dX10_usual_23 rfl rfl (Eq.refl 24) ?_
    refine Tr.iconst (v := nI 2) dX10_usual_24 (icN 2) (Eq.refl 25) ?_
    refine Tr.icmp_ne (tgt := 32) dX10_usual_25 (by decide) (Eq.refl 28) (fun _ => ?_) (fun h => absurd h (by decide))
    refine Tr.iconst (v := nI 1) dX10_usual_32 (icN 1) (Eq.refl 33) ?_
    refine Tr.iret dX10_usual_33 rfl (by first | rfl | exact bI_nar _) ?_ ?_
    · rfl
    · rfl
  · refine Md.of 0 (by decide) rfl rfl ?_
    refine Tr.iload_n (i := 0) dX10_usual_0 rfl rfl (Eq.refl 1) ?_
    refine Tr.iconst (v := nI 1) dX10_usual_1 (icN 1) (Eq.refl 2) ?_
    refine Tr.icmp_ne (tgt := 10) dX10_usual_2 (by decide) (Eq.refl 5) (fun _ => ?_) (fun h => absurd h (by decide))
    refine Tr.iload_n (i := 0) dX10_usual_10 rfl rfl (Eq.refl 11) ?_
    refine Tr.iconst (v := nI 5) dX10_usual_11 (icN 5) (Eq.refl 12) ?_
    refine Tr.icmp_ne (tgt := 19) dX10_usual_12 (by decide) (Eq.refl 15) (fun _ => ?_) (fun h => absurd h (by decide))
    refine Tr.iload_n (i := 0) dX10_usual_19 rfl rfl (Eq.refl 20) ?_
    refine Tr.if_eq (tgt := 28) dX10_usual_20 (by decide) (Eq.refl 23) (fun h => absurd h (by decide)) (fun _ => ?_)
    refine Tr.iload_n (i := 0) dX10_usual_23 rfl rfl (Eq.refl 24) ?_
    refine Tr.iconst (v := nI 2) dX10_usual_24 (icN 2) (Eq.refl 25) ?_
    refine Tr.icmp_ne (tgt := 32) dX10_usual_25 (by decide) (Eq.refl 28) (fun _ => ?_) (fun h => absurd h (by decide))
    refine Tr.iconst (v := nI 1) dX10_usual_32 (icN 1) (Eq.refl 33) ?_
    refine Tr.iret dX10_usual_33 rfl (by first | rfl | exact bI_nar _) ?_ ?_
    · rfl
    · rfl
  · refine Md.of 0 (by decide) rfl rfl ?_
    refine Tr.iload_n (i := 0) dX10_usual_0 rfl rfl (Eq.refl 1) ?_
    refine Tr.iconst (v := nI 1) dX10_usual_1 (icN 1) (Eq.refl 2) ?_
    refine Tr.icmp_ne (tgt := 10) dX10_usual_2 (by decide) (Eq.refl 5) (fun _ => ?_) (fun h => absurd h (by decide))
    refine Tr.iload_n (i := 0) dX10_usual_10 rfl rfl (Eq.refl 11) ?_
    refine Tr.iconst (v := nI 5) dX10_usual_11 (icN 5) (Eq.refl 12) ?_
    refine Tr.icmp_ne (tgt := 19) dX10_usual_12 (by decide) (Eq.refl 15) (fun h => absurd h (by decide)) (fun _ => ?_)
    refine Tr.iconst (v := nI 0) dX10_usual_15 (icN 0) (Eq.refl 16) ?_
    refine Tr.goto (pc' := 33) dX10_usual_16 (by decide) ?_
    refine Tr.iret dX10_usual_33 rfl (by first | rfl | exact bI_nar _) ?_ ?_
    · rfl
    · rfl
set_option maxHeartbeats 4000000 in
set_option maxRecDepth 100000 in
theorem m_greatest (E : EnvT) (ad : Nat → Nat) (k : Nat) (hk : k < 6) : Md E mX10_greatest ad [.int (nI k)] [] (some (.int (ruM k))) [] := by
  rcases (show k = 0 ∨ k = 1 ∨ k = 2 ∨ k = 3 ∨ k = 4 ∨ k = 5 by omega) with rfl | rfl | rfl | rfl | rfl | rfl
  · refine Md.of 0 (by decide) rfl rfl ?_
    refine Tr.iload_n (i := 0) dX10_greatest_0 rfl rfl (Eq.refl 1) ?_
    refine Tr.tsIn (off := 39) (tgt := 40) dX10_greatest_1 (by decide) (by decide) rfl (by decide) ?_
    refine Tr.iconst (v := nI 4) dX10_greatest_40 (icN 4) (Eq.refl 41) ?_
    refine Tr.iret dX10_greatest_41 rfl (by first | rfl | exact bI_nar _) ?_ ?_
    · rfl
    · rfl
  · refine Md.of 0 (by decide) rfl rfl ?_
    refine Tr.iload_n (i := 0) dX10_greatest_0 rfl rfl (Eq.refl 1) ?_
    refine Tr.tsIn (off := 41) (tgt := 42) dX10_greatest_1 (by decide) (by decide) rfl (by decide) ?_
    refine Tr.bipush (v := nI 28) dX10_greatest_42 (by decide +kernel) (Eq.refl 44) ?_
    refine Tr.iret dX10_greatest_44 rfl (by first | rfl | exact bI_nar _) ?_ ?_
    · rfl
    · rfl
  · refine Md.of 0 (by decide) rfl rfl ?_
    refine Tr.iload_n (i := 0) dX10_greatest_0 rfl rfl (Eq.refl 1) ?_
    refine Tr.tsIn (off := 50) (tgt := 51) dX10_greatest_1 (by decide) (by decide) rfl (by decide) ?_
    refine Tr.bipush (v := nI 20) dX10_greatest_51 (by decide +kernel) (Eq.refl 53) ?_
    refine Tr.iret dX10_greatest_53 rfl (by first | rfl | exact bI_nar _) ?_ ?_
    · rfl
    · rfl
  · refine Md.of 0 (by decide) rfl rfl ?_
    refine Tr.iload_n (i := 0) dX10_greatest_0 rfl rfl (Eq.refl 1) ?_
    refine Tr.tsIn (off := 50) (tgt := 51) dX10_greatest_1 (by decide) (by decide) rfl (by decide) ?_
    refine Tr.bipush (v := nI 20) dX10_greatest_51 (by decide +kernel) (Eq.refl 53) ?_
    refine Tr.iret dX10_greatest_53 rfl (by first | rfl | exact bI_nar _) ?_ ?_
    · rfl
    · rfl
  · refine Md.of 0 (by decide) rfl rfl ?_
    refine Tr.iload_n (i := 0) dX10_greatest_0 rfl rfl (Eq.refl 1) ?_
    refine Tr.tsIn (off := 44) (tgt := 45) dX10_greatest_1 (by decide) (by decide) rfl (by decide) ?_
    refine Tr.bipush (v := nI 9) dX10_greatest_45 (by decide +kernel) (Eq.refl 47) ?_
    refine Tr.iret dX10_greatest_47 rfl (by first | rfl | exact bI_nar _) ?_ ?_
    · rfl
    · rfl
  · refine Md.of 0 (by decide) rfl rfl ?_
    refine Tr.iload_n (i := 0) dX10_greatest_0 rfl rfl (Eq.refl 1) ?_
    refine Tr.tsIn (off := 47) (tgt := 48) dX10_greatest_1 (by decide) (by decide) rfl (by decide) ?_
    refine Tr.bipush (v := nI 100) dX10_greatest_48 (by decide +kernel) (Eq.refl 50) ?_
    refine Tr.iret dX10_greatest_50 rfl (by first | rfl | exact bI_nar _) ?_ ?_
    · rfl
    · rfl
theorem wdH (T : Nat → Nat) (len p t : Nat) : wdB T (tkS T len p) (tkE T len p) (tkH T len p) t = wdP T len p t := by
  unfold wdP wdB
  rw [decide_eq_decide.mpr (tkH_1 (T := T) (len := len) (p := p) (k := 1) (by decide))]
def rwM (T : Nat → Nat) (len p : Nat) : Nat := if wdP T len p 6 then 0 else if wdP T len p 7 then 1 else if wdP T len p 8 then 2 else if wdP T len p 9 then 3 else if wdP T len p 10 then 4 else if wdP T len p 11 then 5 else if wdP T len p 5 then 6 else 7
def rwI (c : Nat) : Int32 := if c < 7 then nI c else -1
set_option maxHeartbeats 4000000 in
set_option maxRecDepth 100000 in
theorem m_wordAt (E : EnvT) (ad r : Nat → Nat) (i : Nat → Int32) (len : Nat) (T : Nat → Nat) (z : Rst len) (hl : len ≤ 900) (hT : ∀ k, k < 900 → T k < 256) : Md E mX10_wordAt ad [.ref (ad 0)] (mrP E ad r i len T z) (some (.int (rwI (rwM T len z.1.1)))) (mrP E ad r i len T z) := by
  have hk := tkH_lt T len z.1.1
  have hse := tkE_le T (Nat.le_of_lt_succ z.1.2)
  unfold rwM
  refine Md.of 0 (by decide) rfl rfl ?_
  refine Tr.aload_n (i := 0) dX10_wordAt_0 rfl rfl (Eq.refl 1) ?_
  refine Tr.ldcS dX10_wordAt_1 (by decide +kernel : (RX10, 129, 6) ∈ strT) (Eq.refl 3) ?_
  refine Tr.callVr (L := [0, 1]) (m_is E _ (rR ad r) (iV z.2.2.1 z.2.2.2.2.2.1 z.2.2.2.2.2.2 (iR z.2.2.2.1 z.2.2.2.2.1 i)) len (tkS T len z.1.1) (tkE T len z.1.1) (tkH T len z.1.1) z.2.1 T 6 (by decide) hl hT hse.1 hse.2 (by omega)) dX10_wordAt_3 (kX10_122 (Nat.le_of_ble_eq_true rfl)) iX10_is rfl rfl rfl rfl rfl rfl rfl rfl rfl (Eq.refl 6) ?_
  rw [wdH]
  refine Tr.if_eqB (tgt := 13) dX10_wordAt_6 (by decide) (Eq.refl 9) (fun h6 => ?_) (fun h6 => ?_)
  · rw [if_neg (by rw [h6]; decide)]
    refine Tr.aload_n (i := 0) dX10_wordAt_13 rfl rfl (Eq.refl 14) ?_
    refine Tr.ldcS dX10_wordAt_14 (by decide +kernel : (RX10, 131, 7) ∈ strT) (Eq.refl 16) ?_
    refine Tr.callVr (L := [0, 1]) (m_is E _ (rR ad r) (iV z.2.2.1 z.2.2.2.2.2.1 z.2.2.2.2.2.2 (iR z.2.2.2.1 z.2.2.2.2.1 i)) len (tkS T len z.1.1) (tkE T len z.1.1) (tkH T len z.1.1) z.2.1 T 7 (by decide) hl hT hse.1 hse.2 (by omega)) dX10_wordAt_16 (kX10_122 (Nat.le_of_ble_eq_true rfl)) iX10_is rfl rfl rfl rfl rfl rfl rfl rfl rfl (Eq.refl 19) ?_
    rw [wdH]
    refine Tr.if_eqB (tgt := 26) dX10_wordAt_19 (by decide) (Eq.refl 22) (fun h19 => ?_) (fun h19 => ?_)
    · rw [if_neg (by rw [h19]; decide)]
      refine Tr.aload_n (i := 0) dX10_wordAt_26 rfl rfl (Eq.refl 27) ?_
      refine Tr.ldcS dX10_wordAt_27 (by decide +kernel : (RX10, 133, 8) ∈ strT) (Eq.refl 29) ?_
      refine Tr.callVr (L := [0, 1]) (m_is E _ (rR ad r) (iV z.2.2.1 z.2.2.2.2.2.1 z.2.2.2.2.2.2 (iR z.2.2.2.1 z.2.2.2.2.1 i)) len (tkS T len z.1.1) (tkE T len z.1.1) (tkH T len z.1.1) z.2.1 T 8 (by decide) hl hT hse.1 hse.2 (by omega)) dX10_wordAt_29 (kX10_122 (Nat.le_of_ble_eq_true rfl)) iX10_is rfl rfl rfl rfl rfl rfl rfl rfl rfl (Eq.refl 32) ?_
      rw [wdH]
      refine Tr.if_eqB (tgt := 39) dX10_wordAt_32 (by decide) (Eq.refl 35) (fun h32 => ?_) (fun h32 => ?_)
      · rw [if_neg (by rw [h32]; decide)]
        refine Tr.aload_n (i := 0) dX10_wordAt_39 rfl rfl (Eq.refl 40) ?_
        refine Tr.ldcS dX10_wordAt_40 (by decide +kernel : (RX10, 135, 9) ∈ strT) (Eq.refl 42) ?_
        refine Tr.callVr (L := [0, 1]) (m_is E _ (rR ad r) (iV z.2.2.1 z.2.2.2.2.2.1 z.2.2.2.2.2.2 (iR z.2.2.2.1 z.2.2.2.2.1 i)) len (tkS T len z.1.1) (tkE T len z.1.1) (tkH T len z.1.1) z.2.1 T 9 (by decide) hl hT hse.1 hse.2 (by omega)) dX10_wordAt_42 (kX10_122 (Nat.le_of_ble_eq_true rfl)) iX10_is rfl rfl rfl rfl rfl rfl rfl rfl rfl (Eq.refl 45) ?_
        rw [wdH]
        refine Tr.if_eqB (tgt := 52) dX10_wordAt_45 (by decide) (Eq.refl 48) (fun h45 => ?_) (fun h45 => ?_)
        · rw [if_neg (by rw [h45]; decide)]
          refine Tr.aload_n (i := 0) dX10_wordAt_52 rfl rfl (Eq.refl 53) ?_
          refine Tr.ldcS dX10_wordAt_53 (by decide +kernel : (RX10, 137, 10) ∈ strT) (Eq.refl 55) ?_
          refine Tr.callVr (L := [0, 1]) (m_is E _ (rR ad r) (iV z.2.2.1 z.2.2.2.2.2.1 z.2.2.2.2.2.2 (iR z.2.2.2.1 z.2.2.2.2.1 i)) len (tkS T len z.1.1) (tkE T len z.1.1) (tkH T len z.1.1) z.2.1 T 10 (by decide) hl hT hse.1 hse.2 (by omega)) dX10_wordAt_55 (kX10_122 (Nat.le_of_ble_eq_true rfl)) iX10_is rfl rfl rfl rfl rfl rfl rfl rfl rfl (Eq.refl 58) ?_
          rw [wdH]
          refine Tr.if_eqB (tgt := 65) dX10_wordAt_58 (by decide) (Eq.refl 61) (fun h58 => ?_) (fun h58 => ?_)
          · rw [if_neg (by rw [h58]; decide)]
            refine Tr.aload_n (i := 0) dX10_wordAt_65 rfl rfl (Eq.refl 66) ?_
            refine Tr.ldcS dX10_wordAt_66 (by decide +kernel : (RX10, 139, 11) ∈ strT) (Eq.refl 68) ?_
            refine Tr.callVr (L := [0, 1]) (m_is E _ (rR ad r) (iV z.2.2.1 z.2.2.2.2.2.1 z.2.2.2.2.2.2 (iR z.2.2.2.1 z.2.2.2.2.1 i)) len (tkS T len z.1.1) (tkE T len z.1.1) (tkH T len z.1.1) z.2.1 T 11 (by decide) hl hT hse.1 hse.2 (by omega)) dX10_wordAt_68 (kX10_122 (Nat.le_of_ble_eq_true rfl)) iX10_is rfl rfl rfl rfl rfl rfl rfl rfl rfl (Eq.refl 71) ?_
            rw [wdH]
            refine Tr.if_eqB (tgt := 78) dX10_wordAt_71 (by decide) (Eq.refl 74) (fun h71 => ?_) (fun h71 => ?_)
            · rw [if_neg (by rw [h71]; decide)]
              refine Tr.aload_n (i := 0) dX10_wordAt_78 rfl rfl (Eq.refl 79) ?_
              refine Tr.ldcS dX10_wordAt_79 (by decide +kernel : (RX10, 141, 5) ∈ strT) (Eq.refl 81) ?_
              refine Tr.callVr (L := [0, 1]) (m_is E _ (rR ad r) (iV z.2.2.1 z.2.2.2.2.2.1 z.2.2.2.2.2.2 (iR z.2.2.2.1 z.2.2.2.2.1 i)) len (tkS T len z.1.1) (tkE T len z.1.1) (tkH T len z.1.1) z.2.1 T 5 (by decide) hl hT hse.1 hse.2 (by omega)) dX10_wordAt_81 (kX10_122 (Nat.le_of_ble_eq_true rfl)) iX10_is rfl rfl rfl rfl rfl rfl rfl rfl rfl (Eq.refl 84) ?_
              rw [wdH]
              refine Tr.if_eqB (tgt := 92) dX10_wordAt_84 (by decide) (Eq.refl 87) (fun h84 => ?_) (fun h84 => ?_)
              · rw [if_neg (by rw [h84]; decide)]
                refine Tr.iconst (v := (-1)) dX10_wordAt_92 (by decide +kernel) (Eq.refl 93) ?_
                refine Tr.iret dX10_wordAt_93 rfl (by first | rfl | exact bI_nar _) ?_ ?_
                · rfl
                · rfl
              · rw [if_pos h84]
                refine Tr.bipush (v := nI 6) dX10_wordAt_87 (by decide +kernel) (Eq.refl 89) ?_
                refine Tr.goto (pc' := 93) dX10_wordAt_89 (by decide) ?_
                refine Tr.iret dX10_wordAt_93 rfl (by first | rfl | exact bI_nar _) ?_ ?_
                · rfl
                · rfl
            · rw [if_pos h71]
              refine Tr.iconst (v := nI 5) dX10_wordAt_74 (icN 5) (Eq.refl 75) ?_
              refine Tr.goto (pc' := 93) dX10_wordAt_75 (by decide) ?_
              refine Tr.iret dX10_wordAt_93 rfl (by first | rfl | exact bI_nar _) ?_ ?_
              · rfl
              · rfl
          · rw [if_pos h58]
            refine Tr.iconst (v := nI 4) dX10_wordAt_61 (icN 4) (Eq.refl 62) ?_
            refine Tr.goto (pc' := 93) dX10_wordAt_62 (by decide) ?_
            refine Tr.iret dX10_wordAt_93 rfl (by first | rfl | exact bI_nar _) ?_ ?_
            · rfl
            · rfl
        · rw [if_pos h45]
          refine Tr.iconst (v := nI 3) dX10_wordAt_48 (icN 3) (Eq.refl 49) ?_
          refine Tr.goto (pc' := 93) dX10_wordAt_49 (by decide) ?_
          refine Tr.iret dX10_wordAt_93 rfl (by first | rfl | exact bI_nar _) ?_ ?_
          · rfl
          · rfl
      · rw [if_pos h32]
        refine Tr.iconst (v := nI 2) dX10_wordAt_35 (icN 2) (Eq.refl 36) ?_
        refine Tr.goto (pc' := 93) dX10_wordAt_36 (by decide) ?_
        refine Tr.iret dX10_wordAt_93 rfl (by first | rfl | exact bI_nar _) ?_ ?_
        · rfl
        · rfl
    · rw [if_pos h19]
      refine Tr.iconst (v := nI 1) dX10_wordAt_22 (icN 1) (Eq.refl 23) ?_
      refine Tr.goto (pc' := 93) dX10_wordAt_23 (by decide) ?_
      refine Tr.iret dX10_wordAt_93 rfl (by first | rfl | exact bI_nar _) ?_ ?_
      · rfl
      · rfl
  · rw [if_pos h6]
    refine Tr.iconst (v := nI 0) dX10_wordAt_9 (icN 0) (Eq.refl 10) ?_
    refine Tr.goto (pc' := 93) dX10_wordAt_10 (by decide) ?_
    refine Tr.iret dX10_wordAt_93 rfl (by first | rfl | exact bI_nar _) ?_ ?_
    · rfl
    · rfl
theorem vlF_9 (T : Nat → Nat) (s : Nat) (hT : ∀ k, T k < 256) : ∀ j, vlF T s j < 100000 := by
  intro j
  have h : ∀ j, (j = 0 → vlF T s j = 0) ∧ (j = 1 → vlF T s j ≤ 208) ∧ (j = 2 → vlF T s j ≤ 2288) ∧ (3 ≤ j → vlF T s j ≤ 23088) := by
    intro j
    induction j with
    | zero => exact ⟨fun _ => rfl, fun h => by omega, fun h => by omega, fun h => by omega⟩
    | succ j ih =>
      have hu : vlF T s (j + 1) = if j < 3 then 10 * vlF T s j + (T (s + j) - 48) else vlF T s j := rfl
      have hb := hT (s + j)
      rw [hu]
      obtain ⟨i0, i1, i2, i3⟩ := ih
      refine ⟨fun h => by omega, fun h => ?_, fun h => ?_, fun h => ?_⟩
      · have := i0 (by omega); rw [if_pos (by omega)]; omega
      · have := i1 (by omega); rw [if_pos (by omega)]; omega
      · by_cases h3 : j < 3
        · have := i2 (by omega); rw [if_pos h3]; omega
        · have := i3 (by omega); rw [if_neg h3]; omega
  obtain ⟨i0, i1, i2, i3⟩ := h j
  rcases (show j = 0 ∨ j = 1 ∨ j = 2 ∨ 3 ≤ j by omega) with h | h | h | h
  · have := i0 h; omega
  · have := i1 h; omega
  · have := i2 h; omega
  · have := i3 h; omega
theorem tkV_lt {T : Nat → Nat} {len p vl : Nat} (hT : ∀ k, T k < 256) (hv : vl < 100000) : tkV T len p vl < 100000 := by
  unfold tkV
  split
  · exact vlF_9 T _ hT _
  · exact hv
/-- work told, the name in hand -/
def rWc {len : Nat} (T : Nat → Nat) (y : Rst len) : Nat := fcN T len y.1.1 y.2.2.2.2.1.2.2.2.2.2.2 (npV y.2.2.2.1)
def sWk {len : Nat} (z : Rst len) (c : Nat) : Rst len := (z.1, z.2.1, z.2.2.1, vWk z.2.2.2.1 (upd (wkV z.2.2.2.1) c z.2.2.1), z.2.2.2.2)
def rWy (T : Nat → Nat) {len : Nat} (y : Rst len) : Bool × Rst len :=
  if tkK T len y.1.1 = 1 then
    (if rWc T y < 5 then
      (if wkV y.2.2.2.1 (rWc T y) = 0 then
        (if nuB T (nI 1) (nI 15) (advR T y) then (true, sWk (nuR T (nI 1) (nI 15) (advR T y)) (rWc T y)) else (false, nuR T (nI 1) (nI 15) (advR T y)))
      else (false, badR T y 3))
    else (false, badR T y 5))
  else (false, badR T y 1)
theorem nuR_pic (E : EnvT) (ad r : Nat → Nat) (i : Nat → Int32) (len : Nat) (T : Nat → Nat) (lo hi : Int32) (z : Rst len) (L : List Nat) : True := trivial
theorem nu_if {α : Type} (b c : Prop) [Decidable b] [Decidable c] (g : Rst 0 → α) : True := trivial
set_option maxHeartbeats 4000000 in
set_option maxRecDepth 100000 in
theorem m_readWorks (E : EnvT) (ad r : Nat → Nat) (i : Nat → Int32) (len : Nat) (T : Nat → Nat) (z : Rst len) (hl : len ≤ 900) (hTa : ∀ k, T k < 256) (hv : z.2.1 < 100000) (hn : npV z.2.2.2.1 ≤ 5) : Md E mX10_readWorks ad [.ref (ad 0)] (mrP E ad r i len T z) (some (.int (bI (rWy T (advR T z)).1))) (mrP E ad r i len T (rWy T (advR T z)).2) := by
  have hT : ∀ k, k < 900 → T k < 256 := fun k _ => hTa k
  have hv1 : (advR T z).2.1 < 100000 := tkV_lt hTa hv
  have hn1 : npV (advR T z).2.2.2.1 ≤ 5 := hn
  refine Md.of 1 (by decide) rfl rfl ?_
  refine Tr.aload_n (i := 0) dX10_readWorks_0 rfl rfl (Eq.refl 1) ?_
  refine Tr.callV (L := [0, 1]) (m_scanV E _ (rR ad r) (iR z.2.2.2.1 z.2.2.2.2.1 i) len z.1 z.2.1 z.2.2.1 z.2.2.2.2.2.1 z.2.2.2.2.2.2 T hl hT) dX10_readWorks_1 (kX10_59 (Nat.le_of_ble_eq_true rfl)) iX10_scan rfl rfl rfl rfl rfl rfl rfl rfl rfl rfl (Eq.refl 4) ?_
  refine Tr.pic (w' := mrP E ad r i len T (advR T z)) (putB_eq (Lc := [2, 3, 4, 5, 6, 7, 8, 9, 10, 11]) 12 rfl rfl rfl rfl ⟨⟨_, rfl, rfl⟩, ⟨_, rfl, rfl⟩, ⟨_, rfl, rfl⟩, ⟨_, rfl, rfl⟩, ⟨_, rfl, rfl⟩, ⟨_, rfl, rfl⟩, ⟨_, rfl, rfl⟩, ⟨_, rfl, rfl⟩, ⟨_, rfl, rfl⟩, ⟨_, rfl, rfl⟩, trivial⟩ (by decide) rfl) ?_
  generalize advR T z = y at *
  have hk := tkH_lt T len y.1.1
  have h2 := tkH_1 (T := T) (len := len) (p := y.1.1) (k := 1) (by decide)
  have hfl : rWc T y < 0 + npV y.2.2.2.1 ∨ rWc T y = 5 := fnd_lt _ _ _ 0 (by omega)
  unfold rWy
  refine Tr.aload_n (i := 0) dX10_readWorks_4 rfl rfl (Eq.refl 5) ?_
  refine Tr.getf dX10_readWorks_5 fX10_27 rfl rfl (Eq.refl 8) ?_
  refine Tr.iconst (v := nI 1) dX10_readWorks_8 (icN 1) (Eq.refl 9) ?_
  refine Tr.icmp_eqN (tgt := 18) dX10_readWorks_9 (by decide) (Eq.refl 12) (by omega) (by omega) (fun h9 => ?_) (fun h9 => ?_)
  · have h9 := h2.mp h9
    rw [if_pos h9]
    refine Tr.aload_n (i := 0) dX10_readWorks_18 rfl rfl (Eq.refl 19) ?_
    refine Tr.aload_n (i := 0) dX10_readWorks_19 rfl rfl (Eq.refl 20) ?_
    refine Tr.getf dX10_readWorks_20 fX10_105 rfl rfl (Eq.refl 23) ?_
    refine Tr.aload_n (i := 0) dX10_readWorks_23 rfl rfl (Eq.refl 24) ?_
    refine Tr.getf dX10_readWorks_24 fX10_102 rfl rfl (Eq.refl 27) ?_
    refine Tr.callVr (L := [0, 1, 11]) (m_find E _ (rR ad r) (iR y.2.2.2.1 y.2.2.2.2.1 i) len y.1 y.2.1 y.2.2.1 y.2.2.2.2.2.1 y.2.2.2.2.2.2 T y.2.2.2.2.1.2.2.2.2.2.2 (npV y.2.2.2.1) hl hT h9 hn1) dX10_readWorks_27 (kX10_67 (Nat.le_of_ble_eq_true rfl)) iX10_find rfl rfl rfl rfl rfl rfl rfl rfl rfl (Eq.refl 30) ?_
    refine Tr.top (y := cl (rWc T y)) rfl ?_
    refine Tr.istore_n (i := 1) dX10_readWorks_30 rfl rfl rfl (Eq.refl 31) ?_
    refine Tr.iload_n (i := 1) dX10_readWorks_31 rfl rfl (Eq.refl 32) ?_
    refine Tr.iconst (v := (-1)) dX10_readWorks_32 (by decide +kernel) (Eq.refl 33) ?_
    refine Tr.icmp_eq (tgt := 51) dX10_readWorks_33 (by decide) (Eq.refl 36) (fun h33 => ?_) (fun h33 => ?_)
    · rw [cl_none] at h33
      rw [if_neg h33]
      refine Tr.iload_n (i := 1) dX10_readWorks_51 rfl rfl (Eq.refl 52) ?_
      refine Tr.iconst (v := (-1)) dX10_readWorks_52 (by decide +kernel) (Eq.refl 53) ?_
      refine Tr.icmp_ne (tgt := 62) dX10_readWorks_53 (by decide) (Eq.refl 56) (fun h53 => ?_) (fun h53 => ?_)
      · exact absurd (cl_none.mpr h33) h53
      · refine Tr.aload_n (i := 0) dX10_readWorks_56 rfl rfl (Eq.refl 57) ?_
        refine Tr.iconst (v := nI 5) dX10_readWorks_57 (icN 5) (Eq.refl 58) ?_
        refine Tr.callV (L := [0, 1]) (m_bad E _ (rR ad r) (iR y.2.2.2.1 y.2.2.2.2.1 i) len y.1 y.2.1 y.2.2.1 y.2.2.2.2.2.1 y.2.2.2.2.2.2 T 5) dX10_readWorks_58 (kX10_49 (Nat.le_of_ble_eq_true rfl)) iX10_bad rfl rfl rfl rfl rfl rfl rfl rfl rfl rfl (Eq.refl 61) ?_
        refine Tr.pic (w' := mrP E ad r i len T (badR T y 5)) (putB_eq (Lc := [2, 3, 4, 5, 6, 7, 8, 9, 10, 11]) 12 rfl rfl rfl rfl ⟨⟨_, rfl, rfl⟩, ⟨_, rfl, rfl⟩, ⟨_, rfl, rfl⟩, ⟨_, rfl, rfl⟩, ⟨_, rfl, rfl⟩, ⟨_, rfl, rfl⟩, ⟨_, rfl, rfl⟩, ⟨_, rfl, rfl⟩, ⟨_, rfl, rfl⟩, ⟨_, rfl, rfl⟩, trivial⟩ (by decide) rfl) ?_
        refine Tr.iret dX10_readWorks_61 rfl (by first | rfl | exact bI_nar _) ?_ ?_
        · rfl
        · rfl
    · rw [cl_none] at h33
      have hc5 : rWc T y < 5 := by omega
      rw [cl_lt hc5]
      refine Tr.aload_n (i := 0) dX10_readWorks_36 rfl rfl (Eq.refl 37) ?_
      refine Tr.getf dX10_readWorks_37 fX10_111 rfl rfl (Eq.refl 40) ?_
      refine Tr.iload_n (i := 1) dX10_readWorks_40 rfl rfl (Eq.refl 41) ?_
      refine Tr.ialdN dX10_readWorks_41 rfl (by omega) (by decide) (Eq.refl 42) ?_
      refine Tr.if_eq (tgt := 51) dX10_readWorks_42 (by decide) (Eq.refl 45) (fun h42 => ?_) (fun h42 => ?_)
      · have hw0 : wkV y.2.2.2.1 (rWc T y) = 0 := h42
        rw [← cl_lt hc5]
        rw [if_pos hc5, if_pos hw0]
        have hv2 : (advR T y).2.1 < 100000 := tkV_lt hTa hv1
        refine Tr.iload_n (i := 1) dX10_readWorks_51 rfl rfl (Eq.refl 52) ?_
        refine Tr.iconst (v := (-1)) dX10_readWorks_52 (by decide +kernel) (Eq.refl 53) ?_
        refine Tr.icmp_ne (tgt := 62) dX10_readWorks_53 (by decide) (Eq.refl 56) (fun h53 => ?_) (fun h53 => ?_)
        · refine Tr.aload_n (i := 0) dX10_readWorks_62 rfl rfl (Eq.refl 63) ?_
          refine Tr.callV (L := [0, 1]) (m_scanV E _ (rR ad r) (iR y.2.2.2.1 y.2.2.2.2.1 i) len y.1 y.2.1 y.2.2.1 y.2.2.2.2.2.1 y.2.2.2.2.2.2 T hl hT) dX10_readWorks_63 (kX10_59 (Nat.le_of_ble_eq_true rfl)) iX10_scan rfl rfl rfl rfl rfl rfl rfl rfl rfl rfl (Eq.refl 66) ?_
          refine Tr.pic (w' := mrP E ad r i len T (advR T y)) (putB_eq (Lc := [2, 3, 4, 5, 6, 7, 8, 9, 10, 11]) 12 rfl rfl rfl rfl ⟨⟨_, rfl, rfl⟩, ⟨_, rfl, rfl⟩, ⟨_, rfl, rfl⟩, ⟨_, rfl, rfl⟩, ⟨_, rfl, rfl⟩, ⟨_, rfl, rfl⟩, ⟨_, rfl, rfl⟩, ⟨_, rfl, rfl⟩, ⟨_, rfl, rfl⟩, ⟨_, rfl, rfl⟩, trivial⟩ (by decide) rfl) ?_
          generalize advR T y = x at *
          refine Tr.aload_n (i := 0) dX10_readWorks_66 rfl rfl (Eq.refl 67) ?_
          refine Tr.iconst (v := nI 1) dX10_readWorks_67 (icN 1) (Eq.refl 68) ?_
          refine Tr.bipush (v := nI 15) dX10_readWorks_68 (by decide +kernel) (Eq.refl 70) ?_
          refine Tr.callV (L := [0, 1]) (m_numberS E _ (rR ad r) (iR x.2.2.2.1 x.2.2.2.2.1 i) len x.1 x.2.1 x.2.2.1 x.2.2.2.2.2.1 x.2.2.2.2.2.2 T (nI 1) (nI 15) hl hT (by omega)) dX10_readWorks_70 (kX10_85 (Nat.le_of_ble_eq_true rfl)) iX10_number rfl rfl rfl rfl rfl rfl rfl rfl rfl rfl (Eq.refl 73) ?_
          refine Tr.pic (w' := mrP E ad r i len T (nuR T (nI 1) (nI 15) x)) (putB_eq (Lc := [2, 3, 4, 5, 6, 7, 8, 9, 10, 11]) 12 rfl rfl rfl rfl ⟨⟨_, rfl, rfl⟩, ⟨_, rfl, rfl⟩, ⟨_, rfl, rfl⟩, ⟨_, rfl, rfl⟩, ⟨_, rfl, rfl⟩, ⟨_, rfl, rfl⟩, ⟨_, rfl, rfl⟩, ⟨_, rfl, rfl⟩, ⟨_, rfl, rfl⟩, ⟨_, rfl, rfl⟩, trivial⟩ (by decide) rfl) ?_
          refine Tr.top (y := bI (nuB T (nI 1) (nI 15) x)) rfl ?_
          generalize nuR T (nI 1) (nI 15) x = u at *
          rw [cl_lt hc5]
          refine Tr.if_neB (tgt := 78) dX10_readWorks_73 (by decide) (Eq.refl 76) (fun h73 => ?_) (fun h73 => ?_)
          · rw [if_pos h73]
            refine Tr.aload_n (i := 0) dX10_readWorks_78 rfl rfl (Eq.refl 79) ?_
            refine Tr.getf dX10_readWorks_79 fX10_111 rfl rfl (Eq.refl 82) ?_
            refine Tr.iload_n (i := 1) dX10_readWorks_82 rfl rfl (Eq.refl 83) ?_
            refine Tr.aload_n (i := 0) dX10_readWorks_83 rfl rfl (Eq.refl 84) ?_
            refine Tr.getf dX10_readWorks_84 fX10_56 rfl rfl (Eq.refl 87) ?_
            refine Tr.iastN dX10_readWorks_87 rfl (by omega) (by decide) (Eq.refl 88) ?_
            refine Tr.iconst (v := nI 1) dX10_readWorks_88 (icN 1) (Eq.refl 89) ?_
            refine Tr.iret dX10_readWorks_89 rfl (by first | rfl | exact bI_nar _) ?_ ?_
            · rfl
            · rfl
          · rw [if_neg (by rw [h73]; decide)]
            refine Tr.iconst (v := nI 0) dX10_readWorks_76 (icN 0) (Eq.refl 77) ?_
            refine Tr.iret dX10_readWorks_77 rfl (by first | rfl | exact bI_nar _) ?_ ?_
            · rfl
            · rfl
        · exact absurd h53 (by rw [cl_none]; omega)
      · rw [if_pos hc5, if_neg h42]
        refine Tr.aload_n (i := 0) dX10_readWorks_45 rfl rfl (Eq.refl 46) ?_
        refine Tr.iconst (v := nI 3) dX10_readWorks_46 (icN 3) (Eq.refl 47) ?_
        refine Tr.callV (L := [0, 1]) (m_bad E _ (rR ad r) (iR y.2.2.2.1 y.2.2.2.2.1 i) len y.1 y.2.1 y.2.2.1 y.2.2.2.2.2.1 y.2.2.2.2.2.2 T 3) dX10_readWorks_47 (kX10_49 (Nat.le_of_ble_eq_true rfl)) iX10_bad rfl rfl rfl rfl rfl rfl rfl rfl rfl rfl (Eq.refl 50) ?_
        refine Tr.pic (w' := mrP E ad r i len T (badR T y 3)) (putB_eq (Lc := [2, 3, 4, 5, 6, 7, 8, 9, 10, 11]) 12 rfl rfl rfl rfl ⟨⟨_, rfl, rfl⟩, ⟨_, rfl, rfl⟩, ⟨_, rfl, rfl⟩, ⟨_, rfl, rfl⟩, ⟨_, rfl, rfl⟩, ⟨_, rfl, rfl⟩, ⟨_, rfl, rfl⟩, ⟨_, rfl, rfl⟩, ⟨_, rfl, rfl⟩, ⟨_, rfl, rfl⟩, trivial⟩ (by decide) rfl) ?_
        refine Tr.iret dX10_readWorks_50 rfl (by first | rfl | exact bI_nar _) ?_ ?_
        · rfl
        · rfl
  · have h9 : ¬ tkK T len y.1.1 = 1 := fun z9 => h9 (h2.mpr z9)
    rw [if_neg h9]
    refine Tr.aload_n (i := 0) dX10_readWorks_12 rfl rfl (Eq.refl 13) ?_
    refine Tr.iconst (v := nI 1) dX10_readWorks_13 (icN 1) (Eq.refl 14) ?_
    refine Tr.callV (L := [0, 1]) (m_bad E _ (rR ad r) (iR y.2.2.2.1 y.2.2.2.2.1 i) len y.1 y.2.1 y.2.2.1 y.2.2.2.2.2.1 y.2.2.2.2.2.2 T 1) dX10_readWorks_14 (kX10_49 (Nat.le_of_ble_eq_true rfl)) iX10_bad rfl rfl rfl rfl rfl rfl rfl rfl rfl rfl (Eq.refl 17) ?_
    refine Tr.pic (w' := mrP E ad r i len T (badR T y 1)) (putB_eq (Lc := [2, 3, 4, 5, 6, 7, 8, 9, 10, 11]) 12 rfl rfl rfl rfl ⟨⟨_, rfl, rfl⟩, ⟨_, rfl, rfl⟩, ⟨_, rfl, rfl⟩, ⟨_, rfl, rfl⟩, ⟨_, rfl, rfl⟩, ⟨_, rfl, rfl⟩, ⟨_, rfl, rfl⟩, ⟨_, rfl, rfl⟩, ⟨_, rfl, rfl⟩, ⟨_, rfl, rfl⟩, trivial⟩ (by decide) rfl) ?_
    refine Tr.iret dX10_readWorks_17 rfl (by first | rfl | exact bI_nar _) ?_ ?_
    · rfl
    · rfl
