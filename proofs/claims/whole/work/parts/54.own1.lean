/-! OwnedByGuests: what asks its trial -/
theorem rgB_t {x a b : Int32} (h1 : ¬ x < a) (h2 : ¬ b < x) : rgB x a b = true := by unfold rgB; rw [decide_eq_false h1, decide_eq_false h2]; rfl
theorem ixB_t {x : Int32} {n : Nat} (h1 : ¬ x < 0) (h2 : x < nI n) : ixB x n = true := by unfold ixB; rw [decide_eq_false h1, decide_eq_true h2]; rfl
def l_so : List Nat := 1 :: 2 :: 3 :: 4 :: 5 :: 6 :: 7 :: 8 :: 9 :: 10 :: 11 :: 12 :: 13 :: 14 :: 15 :: 16 :: 17 :: 18 :: 19 :: 20 :: 21 :: 22 :: 23 :: 24 :: 25 :: 26 :: 27 :: 28 :: 29 :: 30 :: 31 :: 32 :: 33 :: 34 :: 35 :: 36 :: 37 :: 38 :: 39 :: 40 :: 41 :: 42 :: 43 :: 44 :: 45 :: 46 :: 47 :: 48 :: 49 :: 50 :: 51 :: 52 :: 53 :: 54 :: 55 :: 56 :: 57 :: 58 :: 59 :: 60 :: 61 :: 62 :: 63 :: 64 :: 65 :: 66 :: 67 :: 68 :: 69 :: 70 :: 71 :: 72 :: 73 :: 74 :: 75 :: 76 :: 77 :: 78 :: 79 :: 80 :: 81 :: 82 :: 83 :: 84 :: 85 :: 86 :: 87 :: 88 :: 89 :: 90 :: 91 :: 92 :: 93 :: 94 :: []
def l_tr : List Nat := 1 :: 2 :: 3 :: 4 :: 5 :: 6 :: 7 :: 8 :: 9 :: 10 :: 11 :: 12 :: 13 :: 14 :: 15 :: 16 :: 17 :: 18 :: 19 :: 20 :: 21 :: 22 :: 23 :: 24 :: 25 :: 26 :: 27 :: 28 :: 29 :: 30 :: 31 :: 32 :: 33 :: 34 :: 35 :: 36 :: 37 :: 38 :: 39 :: 40 :: 41 :: 42 :: 43 :: 44 :: 45 :: 46 :: 47 :: 48 :: 49 :: 50 :: 51 :: 52 :: 53 :: 54 :: 55 :: 56 :: 57 :: 58 :: 59 :: 60 :: 61 :: 62 :: 63 :: 64 :: 65 :: 66 :: 67 :: 68 :: 69 :: 70 :: 71 :: []
theorem dyT (ad : Nat → Nat) : ∀ k, k < 5 → some (adc ad l_tr 95 (0 + 36 + 7 * k)) = some (ad (1 + 36 + 7 * k)) := by
  intro k hk
  rcases (show k = 0 ∨ k = 1 ∨ k = 2 ∨ k = 3 ∨ k = 4 by omega) with rfl | rfl | rfl | rfl | rfl <;> rfl
theorem dyS (ad : Nat → Nat) : ∀ k, k < 5 → some (adc ad l_so 95 (0 + 36 + 7 * k)) = some (ad (1 + 36 + 7 * k)) := by
  intro k hk
  rcases (show k = 0 ∨ k = 1 ∨ k = 2 ∨ k = 3 ∨ k = 4 by omega) with rfl | rfl | rfl | rfl | rfl <;> rfl
theorem Pic.refs {E : EnvT} {ad : Nat → Nat} {w : List va_E} {H : Heap} {q n j : Nat} {f g : Nat → Option Nat} (hw : w[q]? = some (aR E j n f)) (he : ∀ k, k < n → f k = g k) : Pic E ad (w.set q (aR E j n g)) H ↔ Pic E ad w H := by
  have hcell : vp_cell (E.2.1 j) (n, .inr (.inr (.inr (.inr f)))) = vp_cell (E.2.1 j) (n, .inr (.inr (.inr (.inr g)))) := by
    show arrV (E.2.1 j) n (fun k => va_rf (f k)) = arrV (E.2.1 j) n (fun k => va_rf (g k))
    unfold arrV
    congr 1
    apply Array.ext
    · simp
    · intro i g1 g2
      simp only [Array.getElem_ofFn]
      rw [he i (by simpa using g1)]
  have hq := (List.getElem?_eq_some_iff.mp hw).1
  refine ⟨fun h => ⟨fun k x hx => ?_, fun k => by have := h.2 k; rw [List.length_set] at this; exact this⟩, fun h => ⟨fun k x hx => ?_, fun k => by rw [List.length_set]; exact h.2 k⟩⟩
  · by_cases hk : q = k
    · subst hk
      rw [prs_at hw] at hx
      cases hx
      have h1 := h.1 q (ad q, aR E j n g) (by rw [prs_set, Nat.zero_add]; exact List.getElem?_set_self (by rw [prs_len]; exact hq))
      show H[ad q]? = some (vp_cell _ _)
      have h2 : H[ad q]? = some (vp_cell (E.2.1 j) (n, .inr (.inr (.inr (.inr g))))) := h1
      rw [h2, ← hcell]
    · exact h.1 k x (by rw [prs_set, List.getElem?_set_ne hk]; exact hx)
  · rw [prs_set, Nat.zero_add] at hx
    by_cases hk : q = k
    · subst hk
      rw [List.getElem?_set_self (by rw [prs_len]; exact hq)] at hx
      cases hx
      have h1 := h.1 q _ (prs_at hw)
      show H[ad q]? = some (vp_cell _ _)
      have h2 : H[ad q]? = some (vp_cell (E.2.1 j) (n, .inr (.inr (.inr (.inr f))))) := h1
      rw [h2, hcell]
    · rw [List.getElem?_set_ne hk] at hx
      exact h.1 k x hx
theorem Md.mono {E : EnvT} {M : MInf} {ad : Nat → Nat} {av : List Value} {w w0 w2 w3 : List va_E} {r0 : Option Value} (h : Md E M ad av w r0 w0) (h1 : ∀ H, Pic E ad w2 H → Pic E ad w H) (h2 : ∀ H, Pic E ad w0 H → Pic E ad w3 H) : Md E M ad av w2 r0 w3 :=
  fun l => MetFree.mono (h l) (fun a s hp => ⟨hp.1, h1 _ hp.2.1, hp.2.2⟩) (fun _ _ _ _ _ k => k) (fun a s o s' _ hq => ⟨⟨hq.1.1, h2 _ hq.1.2.1, hq.1.2.2⟩, hq.2⟩)
theorem Md.refs {E : EnvT} {M : MInf} {ad : Nat → Nat} {av : List Value} {w w0 : List va_E} {r0 : Option Value} {n j : Nat} {f : Nat → Option Nat} (q : Nat) (g : Nat → Option Nat) (h : Md E M ad av w r0 w0) (hw : w[q]? = some (aR E j n f)) (hw0 : w0[q]? = some (aR E j n f)) (he : ∀ k, k < n → f k = g k) : Md E M ad av (w.set q (aR E j n g)) r0 (w0.set q (aR E j n g)) :=
  h.mono (fun H hp => (Pic.refs hw he).mp hp) (fun H hp => (Pic.refs hw0 he).mpr hp)
/-- object and village -/
def xvC (E : EnvT) (ad r : Nat → Nat) (hf : Int32) (V : Vil) (X : Vix) : List va_E := (.inr (9, [.ref (r 0), .ref (r 1), .ref (ad 1), .ref (r 3), .ref (r 4), .ref (r 5), .ref (r 6), .ref (r 7), .int hf]) : va_E) :: viC E ad 1 V X
/-- object, trial, village, course -/
def xtC (E : EnvT) (ad r : Nat → Nat) (hf : Int32) (T : Tst) (V : Vil) (X : Vix) (S : Scn) (P : Nat → Nat) (L : Nat → Int32) (a : Nat) (kp : Bool) (W : Nat → Nat) : List va_E := (.inr (9, [.ref (r 0), .ref (r 1), .ref (ad 72), .ref (ad 83), .ref (r 4), .ref (ad 1), .ref (r 6), .ref (r 7), .int hf]) : va_E) :: (trC E ad 1 T ++ (viC E ad 72 V X ++ coC E ad 83 S P L a kp W))
def rV (ad r : Nat → Nat) (k : Nat) : Nat := if k = 3 then ad 83 else if k = 5 then ad 1 else r k
/-- a trial that has set out -/
def stT (T : Tst) (V : Vil) (P : Nat → Nat) (L : Nat → Int32) (S : Scn) : Tst := uO (uL (uP (uV T V) P) L) S
theorem stT_ok {T : Tst} {V : Vil} {P : Nat → Nat} {L : Nat → Int32} {S : Scn} (hV : Vok V) (hS : Sle V S) (hP : Ple P) (ht : psS S < 2 ^ 30) : Tok (stT T V P L S) := ⟨hV, hP, hS, ht⟩
set_option maxHeartbeats 4000000 in
set_option maxRecDepth 100000 in
theorem x_isPerson (E : EnvT) (ad r : Nat → Nat) (hf : Int32) (V : Vil) (X : Vix) (x : Int32) : Md E mX9_isPerson ad [.ref (ad 0), .int x] (xvC E ad r hf V X) (some (.int (bI (ixB x (npV V))))) (xvC E ad r hf V X) := by
  refine Md.of 0 (by decide) rfl rfl ?_
  refine Tr.iload_n (i := 1) dX9_isPerson_0 rfl rfl (Eq.refl 1) ?_
  refine Tr.if_lt (tgt := 19) dX9_isPerson_1 (by decide) (Eq.refl 4) (fun h1 => ?_) (fun h1 => ?_)
  · rw [show ixB x (npV V) = false from by unfold ixB; rw [decide_eq_true h1]; rfl]
    refine Tr.iconst (v := nI 0) dX9_isPerson_19 (icN 0) (Eq.refl 20) ?_
    refine Tr.iret dX9_isPerson_20 rfl (by first | rfl | exact bI_nar _) ?_ ?_
    · rfl
    · rfl
  · refine Tr.iload_n (i := 1) dX9_isPerson_4 rfl rfl (Eq.refl 5) ?_
    refine Tr.aload_n (i := 0) dX9_isPerson_5 rfl rfl (Eq.refl 6) ?_
    refine Tr.getf dX9_isPerson_6 fX9_28 rfl rfl (Eq.refl 9) ?_
    refine Tr.getf dX9_isPerson_9 fX9_102 rfl rfl (Eq.refl 12) ?_
    refine Tr.icmp_geL (tgt := 19) dX9_isPerson_12 (by decide) (Eq.refl 15) (fun h12 => ?_) (fun h12 => ?_)
    · rw [show ixB x (npV V) = false from by unfold ixB; rw [decide_eq_false h12, Bool.and_false]]
      refine Tr.iconst (v := nI 0) dX9_isPerson_19 (icN 0) (Eq.refl 20) ?_
      refine Tr.iret dX9_isPerson_20 rfl (by first | rfl | exact bI_nar _) ?_ ?_
      · rfl
      · rfl
    · rw [ixB_t h1 h12]
      refine Tr.iconst (v := nI 1) dX9_isPerson_15 (icN 1) (Eq.refl 16) ?_
      refine Tr.goto (pc' := 20) dX9_isPerson_16 (by decide) ?_
      refine Tr.iret dX9_isPerson_20 rfl (by first | rfl | exact bI_nar _) ?_ ?_
      · rfl
      · rfl
set_option maxHeartbeats 4000000 in
set_option maxRecDepth 100000 in
theorem x_isHouse (E : EnvT) (ad r : Nat → Nat) (hf : Int32) (V : Vil) (X : Vix) (x : Int32) : Md E mX9_isHouse ad [.ref (ad 0), .int x] (xvC E ad r hf V X) (some (.int (bI (ixB x (nhV V))))) (xvC E ad r hf V X) := by
  refine Md.of 0 (by decide) rfl rfl ?_
  refine Tr.iload_n (i := 1) dX9_isHouse_0 rfl rfl (Eq.refl 1) ?_
  refine Tr.if_lt (tgt := 19) dX9_isHouse_1 (by decide) (Eq.refl 4) (fun h1 => ?_) (fun h1 => ?_)
  · rw [show ixB x (nhV V) = false from by unfold ixB; rw [decide_eq_true h1]; rfl]
    refine Tr.iconst (v := nI 0) dX9_isHouse_19 (icN 0) (Eq.refl 20) ?_
    refine Tr.iret dX9_isHouse_20 rfl (by first | rfl | exact bI_nar _) ?_ ?_
    · rfl
    · rfl
  · refine Tr.iload_n (i := 1) dX9_isHouse_4 rfl rfl (Eq.refl 5) ?_
    refine Tr.aload_n (i := 0) dX9_isHouse_5 rfl rfl (Eq.refl 6) ?_
    refine Tr.getf dX9_isHouse_6 fX9_28 rfl rfl (Eq.refl 9) ?_
    refine Tr.getf dX9_isHouse_9 fX9_99 rfl rfl (Eq.refl 12) ?_
    refine Tr.icmp_geL (tgt := 19) dX9_isHouse_12 (by decide) (Eq.refl 15) (fun h12 => ?_) (fun h12 => ?_)
    · rw [show ixB x (nhV V) = false from by unfold ixB; rw [decide_eq_false h12, Bool.and_false]]
      refine Tr.iconst (v := nI 0) dX9_isHouse_19 (icN 0) (Eq.refl 20) ?_
      refine Tr.iret dX9_isHouse_20 rfl (by first | rfl | exact bI_nar _) ?_ ?_
      · rfl
      · rfl
    · rw [ixB_t h1 h12]
      refine Tr.iconst (v := nI 1) dX9_isHouse_15 (icN 1) (Eq.refl 16) ?_
      refine Tr.goto (pc' := 20) dX9_isHouse_16 (by decide) ?_
      refine Tr.iret dX9_isHouse_20 rfl (by first | rfl | exact bI_nar _) ?_ ?_
      · rfl
      · rfl
set_option maxHeartbeats 4000000 in
set_option maxRecDepth 100000 in
theorem x_areTwo (E : EnvT) (ad r : Nat → Nat) (hf : Int32) (V : Vil) (X : Vix) (x y : Int32) : Md E mX9_areTwo ad [.ref (ad 0), .int x, .int y] (xvC E ad r hf V X) (some (.int (bI (ixB x (npV V) && ixB y (npV V) && !decide (x = y))))) (xvC E ad r hf V X) := by
  refine Md.of 0 (by decide) rfl rfl ?_
  refine Tr.aload_n (i := 0) dX9_areTwo_0 rfl rfl (Eq.refl 1) ?_
  refine Tr.iload_n (i := 1) dX9_areTwo_1 rfl rfl (Eq.refl 2) ?_
  refine Tr.callVs (x_isPerson E ad r hf V X x) dX9_areTwo_2 (kX9_134 (Nat.le_of_ble_eq_true rfl)) iX9_isPerson rfl rfl rfl rfl rfl (Nat.le_refl _) rfl rfl (Eq.refl 5) ?_
  refine Tr.if_eqB (tgt := 25) dX9_areTwo_5 (by decide) (Eq.refl 8) (fun h5 => ?_) (fun h5 => ?_)
  · rw [h5, Bool.false_and, Bool.false_and]
    refine Tr.iconst (v := nI 0) dX9_areTwo_25 (icN 0) (Eq.refl 26) ?_
    refine Tr.iret dX9_areTwo_26 rfl (by first | rfl | exact bI_nar _) ?_ ?_
    · rfl
    · rfl
  · refine Tr.aload_n (i := 0) dX9_areTwo_8 rfl rfl (Eq.refl 9) ?_
    refine Tr.iload_n (i := 2) dX9_areTwo_9 rfl rfl (Eq.refl 10) ?_
    refine Tr.callVs (x_isPerson E ad r hf V X y) dX9_areTwo_10 (kX9_134 (Nat.le_of_ble_eq_true rfl)) iX9_isPerson rfl rfl rfl rfl rfl (Nat.le_refl _) rfl rfl (Eq.refl 13) ?_
    refine Tr.if_eqB (tgt := 25) dX9_areTwo_13 (by decide) (Eq.refl 16) (fun h13 => ?_) (fun h13 => ?_)
    · rw [h13, Bool.and_false, Bool.false_and]
      refine Tr.iconst (v := nI 0) dX9_areTwo_25 (icN 0) (Eq.refl 26) ?_
      refine Tr.iret dX9_areTwo_26 rfl (by first | rfl | exact bI_nar _) ?_ ?_
      · rfl
      · rfl
    · refine Tr.iload_n (i := 1) dX9_areTwo_16 rfl rfl (Eq.refl 17) ?_
      refine Tr.iload_n (i := 2) dX9_areTwo_17 rfl rfl (Eq.refl 18) ?_
      refine Tr.icmp_eq (tgt := 25) dX9_areTwo_18 (by decide) (Eq.refl 21) (fun h18 => ?_) (fun h18 => ?_)
      · rw [h18, decide_eq_true rfl]; simp only [Bool.not_true, Bool.and_false]
        refine Tr.iconst (v := nI 0) dX9_areTwo_25 (icN 0) (Eq.refl 26) ?_
        refine Tr.iret dX9_areTwo_26 rfl (by first | rfl | exact bI_nar _) ?_ ?_
        · rfl
        · rfl
      · rw [h5, h13, decide_eq_false h18]
        refine Tr.iconst (v := nI 1) dX9_areTwo_21 (icN 1) (Eq.refl 22) ?_
        refine Tr.goto (pc' := 26) dX9_areTwo_22 (by decide) ?_
        refine Tr.iret dX9_areTwo_26 rfl (by first | rfl | exact bI_nar _) ?_ ?_
        · rfl
        · rfl
set_option maxHeartbeats 4000000 in
set_option maxRecDepth 100000 in
theorem x_sum (E : EnvT) (ad r : Nat → Nat) (hf : Int32) (T : Tst) (V : Vil) (X : Vix) (S : Scn) (P : Nat → Nat) (L : Nat → Int32) (a : Nat) (kp : Bool) (W : Nat → Nat) (x : Int32) (hV : Vok V) (hS : Sle V S) (hP : Ple P) (ht : psS S < 2 ^ 30) : Md E mX9_sum ad [.ref (ad 0), .int x] (xtC E ad r hf T V X S P L a kp W) (some (.int (if ixB x (npV V) then smF (stT T V P L S) (nN x) else -1000000))) (xtC E ad r hf (if ixB x (npV V) then (rqT (stT T V P L S) 4) else T) V X S P L a kp W) := by
  have v1 := hV.1
  have v2 := hV.2.1
  have hT : Tok (stT T V P L S) := stT_ok hV hS hP ht
  by_cases hc : ixB x (npV V) = true
  · rw [if_pos hc, if_pos hc]
    obtain ⟨p, hp, rfl⟩ := ixB_n v2 hc
    rw [nN_n (by omega)]
    have eV : vT (stT T V P L S) = V := rfl
    refine Md.of 0 (by decide) rfl rfl ?_
    refine Tr.aload_n (i := 0) dX9_sum_0 rfl rfl (Eq.refl 1) ?_
    refine Tr.iload_n (i := 1) dX9_sum_1 rfl rfl (Eq.refl 2) ?_
    refine Tr.callVr (L := [0, 72, 73, 74, 75, 76, 77, 78, 79, 80, 81, 82]) (x_isPerson E _ (rV ad r) hf V X (nI p)) dX9_sum_2 (kX9_134 (Nat.le_of_ble_eq_true rfl)) iX9_isPerson rfl rfl rfl rfl rfl rfl rfl rfl rfl (Eq.refl 5) ?_
    refine Tr.if_neB (tgt := 11) dX9_sum_5 (by decide) (Eq.refl 8) (fun h5 => ?_) (fun h5 => ?_)
    · refine Tr.aload_n (i := 0) dX9_sum_11 rfl rfl (Eq.refl 12) ?_
      refine Tr.getf dX9_sum_12 fX9_46 rfl rfl (Eq.refl 15) ?_
      refine Tr.aload_n (i := 0) dX9_sum_15 rfl rfl (Eq.refl 16) ?_
      refine Tr.getf dX9_sum_16 fX9_28 rfl rfl (Eq.refl 19) ?_
      refine Tr.aload_n (i := 0) dX9_sum_19 rfl rfl (Eq.refl 20) ?_
      refine Tr.getf dX9_sum_20 fX9_35 rfl rfl (Eq.refl 23) ?_
      refine Tr.callV (L := l_so) (Md.refs 29 (fun k => some (ad (1 + 36 + 7 * k))) (c_setOut E _ T V X S P L a kp W) rfl rfl (dyS ad)) dX9_sum_23 (kX9_213 (Nat.le_of_ble_eq_true rfl)) iX6_setOut rfl rfl rfl rfl rfl rfl rfl rfl rfl rfl (Eq.refl 26) ?_
      refine Tr.pic (w' := xtC E ad r hf (stT T V P L S) V X S P L a kp W) (putB_eq (Lc := [0]) 95 rfl rfl rfl rfl ⟨⟨_, rfl, rfl⟩, trivial⟩ (by decide) rfl) ?_
      generalize (stT T V P L S) = T2 at *
      refine Tr.aload_n (i := 0) dX9_sum_26 rfl rfl (Eq.refl 27) ?_
      refine Tr.getf dX9_sum_27 fX9_46 rfl rfl (Eq.refl 30) ?_
      refine Tr.iload_n (i := 1) dX9_sum_30 rfl rfl (Eq.refl 31) ?_
      refine Tr.callV (L := l_tr) (Md.refs 29 (fun k => some (ad (1 + 36 + 7 * k))) (c_sumOf E _ T2 p hT (by rw [eV]; exact hp)) rfl rfl (dyT ad)) dX9_sum_31 (kX9_217 (Nat.le_of_ble_eq_true rfl)) iX6_sumOf rfl rfl rfl rfl rfl rfl rfl rfl rfl rfl (Eq.refl 34) ?_
      refine Tr.pic (w' := xtC E ad r hf (rqT T2 4) V X S P L a kp W) (putB_eq (Lc := [0, 72, 73, 74, 75, 76, 77, 78, 79, 80, 81, 82, 83, 84, 85, 86, 87, 88, 89, 90, 91, 92, 93, 94]) 95 rfl rfl rfl rfl ⟨⟨_, rfl, rfl⟩, ⟨_, rfl, rfl⟩, ⟨_, rfl, rfl⟩, ⟨_, rfl, rfl⟩, ⟨_, rfl, rfl⟩, ⟨_, rfl, rfl⟩, ⟨_, rfl, rfl⟩, ⟨_, rfl, rfl⟩, ⟨_, rfl, rfl⟩, ⟨_, rfl, rfl⟩, ⟨_, rfl, rfl⟩, ⟨_, rfl, rfl⟩, ⟨_, rfl, rfl⟩, ⟨_, rfl, rfl⟩, ⟨_, rfl, rfl⟩, ⟨_, rfl, rfl⟩, ⟨_, rfl, rfl⟩, ⟨_, rfl, rfl⟩, ⟨_, rfl, rfl⟩, ⟨_, rfl, rfl⟩, ⟨_, rfl, rfl⟩, ⟨_, rfl, rfl⟩, ⟨_, rfl, rfl⟩, ⟨_, rfl, rfl⟩, trivial⟩ (by decide) rfl) ?_
      refine Tr.iret dX9_sum_34 rfl (by first | rfl | exact bI_nar _) ?_ ?_
      · rfl
      · rfl
    · exact absurd (hc.symm.trans h5) (by decide)
  · rw [if_neg hc, if_neg hc]
    refine Md.of 0 (by decide) rfl rfl ?_
    refine Tr.aload_n (i := 0) dX9_sum_0 rfl rfl (Eq.refl 1) ?_
    refine Tr.iload_n (i := 1) dX9_sum_1 rfl rfl (Eq.refl 2) ?_
    refine Tr.callVr (L := [0, 72, 73, 74, 75, 76, 77, 78, 79, 80, 81, 82]) (x_isPerson E _ (rV ad r) hf V X x) dX9_sum_2 (kX9_134 (Nat.le_of_ble_eq_true rfl)) iX9_isPerson rfl rfl rfl rfl rfl rfl rfl rfl rfl (Eq.refl 5) ?_
    refine Tr.if_neB (tgt := 11) dX9_sum_5 (by decide) (Eq.refl 8) (fun h5 => ?_) (fun h5 => ?_)
    · exact absurd h5 hc
    · refine Tr.ldc dX9_sum_8 qX9_184 (Eq.refl 10) ?_
      refine Tr.iret dX9_sum_10 rfl (by first | rfl | exact bI_nar _) ?_ ?_
      · rfl
      · rfl
set_option maxHeartbeats 4000000 in
set_option maxRecDepth 100000 in
theorem x_when (E : EnvT) (ad r : Nat → Nat) (hf : Int32) (T : Tst) (V : Vil) (X : Vix) (S : Scn) (P : Nat → Nat) (L : Nat → Int32) (a : Nat) (kp : Bool) (W : Nat → Nat) (x : Int32) (hV : Vok V) (hS : Sle V S) (hP : Ple P) (ht : psS S < 2 ^ 30) : Md E mX9_when ad [.ref (ad 0), .int x] (xtC E ad r hf T V X S P L a kp W) (some (.int (if ixB x (npV V) then nI (bqF (stT T V P L S) (nN x) 4).2.2 else -2))) (xtC E ad r hf (if ixB x (npV V) then (bqF (stT T V P L S) (nN x) 4).1 else T) V X S P L a kp W) := by
  have v1 := hV.1
  have v2 := hV.2.1
  have hT : Tok (stT T V P L S) := stT_ok hV hS hP ht
  by_cases hc : ixB x (npV V) = true
  · rw [if_pos hc, if_pos hc]
    obtain ⟨p, hp, rfl⟩ := ixB_n v2 hc
    rw [nN_n (by omega)]
    have eV : vT (stT T V P L S) = V := rfl
    refine Md.of 0 (by decide) rfl rfl ?_
    refine Tr.aload_n (i := 0) dX9_when_0 rfl rfl (Eq.refl 1) ?_
    refine Tr.iload_n (i := 1) dX9_when_1 rfl rfl (Eq.refl 2) ?_
    refine Tr.callVr (L := [0, 72, 73, 74, 75, 76, 77, 78, 79, 80, 81, 82]) (x_isPerson E _ (rV ad r) hf V X (nI p)) dX9_when_2 (kX9_134 (Nat.le_of_ble_eq_true rfl)) iX9_isPerson rfl rfl rfl rfl rfl rfl rfl rfl rfl (Eq.refl 5) ?_
    refine Tr.if_neB (tgt := 11) dX9_when_5 (by decide) (Eq.refl 8) (fun h5 => ?_) (fun h5 => ?_)
    · refine Tr.aload_n (i := 0) dX9_when_11 rfl rfl (Eq.refl 12) ?_
      refine Tr.getf dX9_when_12 fX9_46 rfl rfl (Eq.refl 15) ?_
      refine Tr.aload_n (i := 0) dX9_when_15 rfl rfl (Eq.refl 16) ?_
      refine Tr.getf dX9_when_16 fX9_28 rfl rfl (Eq.refl 19) ?_
      refine Tr.aload_n (i := 0) dX9_when_19 rfl rfl (Eq.refl 20) ?_
      refine Tr.getf dX9_when_20 fX9_35 rfl rfl (Eq.refl 23) ?_
      refine Tr.callV (L := l_so) (Md.refs 29 (fun k => some (ad (1 + 36 + 7 * k))) (c_setOut E _ T V X S P L a kp W) rfl rfl (dyS ad)) dX9_when_23 (kX9_213 (Nat.le_of_ble_eq_true rfl)) iX6_setOut rfl rfl rfl rfl rfl rfl rfl rfl rfl rfl (Eq.refl 26) ?_
      refine Tr.pic (w' := xtC E ad r hf (stT T V P L S) V X S P L a kp W) (putB_eq (Lc := [0]) 95 rfl rfl rfl rfl ⟨⟨_, rfl, rfl⟩, trivial⟩ (by decide) rfl) ?_
      generalize (stT T V P L S) = T2 at *
      refine Tr.aload_n (i := 0) dX9_when_26 rfl rfl (Eq.refl 27) ?_
      refine Tr.getf dX9_when_27 fX9_46 rfl rfl (Eq.refl 30) ?_
      refine Tr.iload_n (i := 1) dX9_when_30 rfl rfl (Eq.refl 31) ?_
      refine Tr.callV (L := l_tr) (Md.refs 29 (fun k => some (ad (1 + 36 + 7 * k))) (c_bestQuarterOut E _ T2 p hT (by rw [eV]; exact hp)) rfl rfl (dyT ad)) dX9_when_31 (kX9_259 (Nat.le_of_ble_eq_true rfl)) iX6_bestQuarterOut rfl rfl rfl rfl rfl rfl rfl rfl rfl rfl (Eq.refl 34) ?_
      refine Tr.pic (w' := xtC E ad r hf (bqF T2 p 4).1 V X S P L a kp W) (putB_eq (Lc := [0, 72, 73, 74, 75, 76, 77, 78, 79, 80, 81, 82, 83, 84, 85, 86, 87, 88, 89, 90, 91, 92, 93, 94]) 95 rfl rfl rfl rfl ⟨⟨_, rfl, rfl⟩, ⟨_, rfl, rfl⟩, ⟨_, rfl, rfl⟩, ⟨_, rfl, rfl⟩, ⟨_, rfl, rfl⟩, ⟨_, rfl, rfl⟩, ⟨_, rfl, rfl⟩, ⟨_, rfl, rfl⟩, ⟨_, rfl, rfl⟩, ⟨_, rfl, rfl⟩, ⟨_, rfl, rfl⟩, ⟨_, rfl, rfl⟩, ⟨_, rfl, rfl⟩, ⟨_, rfl, rfl⟩, ⟨_, rfl, rfl⟩, ⟨_, rfl, rfl⟩, ⟨_, rfl, rfl⟩, ⟨_, rfl, rfl⟩, ⟨_, rfl, rfl⟩, ⟨_, rfl, rfl⟩, ⟨_, rfl, rfl⟩, ⟨_, rfl, rfl⟩, ⟨_, rfl, rfl⟩, ⟨_, rfl, rfl⟩, trivial⟩ (by decide) rfl) ?_
      refine Tr.iret dX9_when_34 rfl (by first | rfl | exact bI_nar _) ?_ ?_
      · rfl
      · rfl
    · exact absurd (hc.symm.trans h5) (by decide)
  · rw [if_neg hc, if_neg hc]
    refine Md.of 0 (by decide) rfl rfl ?_
    refine Tr.aload_n (i := 0) dX9_when_0 rfl rfl (Eq.refl 1) ?_
    refine Tr.iload_n (i := 1) dX9_when_1 rfl rfl (Eq.refl 2) ?_
    refine Tr.callVr (L := [0, 72, 73, 74, 75, 76, 77, 78, 79, 80, 81, 82]) (x_isPerson E _ (rV ad r) hf V X x) dX9_when_2 (kX9_134 (Nat.le_of_ble_eq_true rfl)) iX9_isPerson rfl rfl rfl rfl rfl rfl rfl rfl rfl (Eq.refl 5) ?_
    refine Tr.if_neB (tgt := 11) dX9_when_5 (by decide) (Eq.refl 8) (fun h5 => ?_) (fun h5 => ?_)
    · exact absurd h5 hc
    · refine Tr.bipush (v := (-2)) dX9_when_8 (by decide +kernel) (Eq.refl 10) ?_
      refine Tr.iret dX9_when_10 rfl (by first | rfl | exact bI_nar _) ?_ ?_
      · rfl
      · rfl
set_option maxHeartbeats 4000000 in
set_option maxRecDepth 100000 in
theorem x_whom (E : EnvT) (ad r : Nat → Nat) (hf : Int32) (T : Tst) (V : Vil) (X : Vix) (S : Scn) (P : Nat → Nat) (L : Nat → Int32) (a : Nat) (kp : Bool) (W : Nat → Nat) (x : Int32) (hV : Vok V) (hS : Sle V S) (hP : Ple P) (ht : psS S < 2 ^ 30) : Md E mX9_whom ad [.ref (ad 0), .int x] (xtC E ad r hf T V X S P L a kp W) (some (.int (if ixB x (npV V) then nI (blF (stT T V P L S) (nN x) (2 ^ npV V)).2.2 else -2))) (xtC E ad r hf (if ixB x (npV V) then (blF (stT T V P L S) (nN x) (2 ^ npV V)).1 else T) V X S P L a kp W) := by
  have v1 := hV.1
  have v2 := hV.2.1
  have hT : Tok (stT T V P L S) := stT_ok hV hS hP ht
  by_cases hc : ixB x (npV V) = true
  · rw [if_pos hc, if_pos hc]
    obtain ⟨p, hp, rfl⟩ := ixB_n v2 hc
    rw [nN_n (by omega)]
    have eV : vT (stT T V P L S) = V := rfl
    refine Md.of 0 (by decide) rfl rfl ?_
    refine Tr.aload_n (i := 0) dX9_whom_0 rfl rfl (Eq.refl 1) ?_
    refine Tr.iload_n (i := 1) dX9_whom_1 rfl rfl (Eq.refl 2) ?_
    refine Tr.callVr (L := [0, 72, 73, 74, 75, 76, 77, 78, 79, 80, 81, 82]) (x_isPerson E _ (rV ad r) hf V X (nI p)) dX9_whom_2 (kX9_134 (Nat.le_of_ble_eq_true rfl)) iX9_isPerson rfl rfl rfl rfl rfl rfl rfl rfl rfl (Eq.refl 5) ?_
    refine Tr.if_neB (tgt := 11) dX9_whom_5 (by decide) (Eq.refl 8) (fun h5 => ?_) (fun h5 => ?_)
    · refine Tr.aload_n (i := 0) dX9_whom_11 rfl rfl (Eq.refl 12) ?_
      refine Tr.getf dX9_whom_12 fX9_46 rfl rfl (Eq.refl 15) ?_
      refine Tr.aload_n (i := 0) dX9_whom_15 rfl rfl (Eq.refl 16) ?_
      refine Tr.getf dX9_whom_16 fX9_28 rfl rfl (Eq.refl 19) ?_
      refine Tr.aload_n (i := 0) dX9_whom_19 rfl rfl (Eq.refl 20) ?_
      refine Tr.getf dX9_whom_20 fX9_35 rfl rfl (Eq.refl 23) ?_
      refine Tr.callV (L := l_so) (Md.refs 29 (fun k => some (ad (1 + 36 + 7 * k))) (c_setOut E _ T V X S P L a kp W) rfl rfl (dyS ad)) dX9_whom_23 (kX9_213 (Nat.le_of_ble_eq_true rfl)) iX6_setOut rfl rfl rfl rfl rfl rfl rfl rfl rfl rfl (Eq.refl 26) ?_
      refine Tr.pic (w' := xtC E ad r hf (stT T V P L S) V X S P L a kp W) (putB_eq (Lc := [0]) 95 rfl rfl rfl rfl ⟨⟨_, rfl, rfl⟩, trivial⟩ (by decide) rfl) ?_
      generalize (stT T V P L S) = T2 at *
      refine Tr.aload_n (i := 0) dX9_whom_26 rfl rfl (Eq.refl 27) ?_
      refine Tr.getf dX9_whom_27 fX9_46 rfl rfl (Eq.refl 30) ?_
      refine Tr.iload_n (i := 1) dX9_whom_30 rfl rfl (Eq.refl 31) ?_
      refine Tr.callV (L := l_tr) (Md.refs 29 (fun k => some (ad (1 + 36 + 7 * k))) (show Md E _ (adc ad l_tr 95) _ (trC E (adc ad l_tr 95) 0 T2) (some (.int (nI (blF T2 p (2 ^ npV V)).2.2))) (trC E (adc ad l_tr 95) 0 (blF T2 p (2 ^ npV V)).1) from by have h9 := c_bestLets E (adc ad l_tr 95) T2 p hT (by rw [eV]; exact hp); rw [eV] at h9; exact h9) rfl rfl (dyT ad)) dX9_whom_31 (kX9_287 (Nat.le_of_ble_eq_true rfl)) iX6_bestLets rfl rfl rfl rfl rfl rfl rfl rfl rfl rfl (Eq.refl 34) ?_
      refine Tr.pic (w' := xtC E ad r hf (blF T2 p (2 ^ npV V)).1 V X S P L a kp W) (putB_eq (Lc := [0, 72, 73, 74, 75, 76, 77, 78, 79, 80, 81, 82, 83, 84, 85, 86, 87, 88, 89, 90, 91, 92, 93, 94]) 95 rfl rfl rfl rfl ⟨⟨_, rfl, rfl⟩, ⟨_, rfl, rfl⟩, ⟨_, rfl, rfl⟩, ⟨_, rfl, rfl⟩, ⟨_, rfl, rfl⟩, ⟨_, rfl, rfl⟩, ⟨_, rfl, rfl⟩, ⟨_, rfl, rfl⟩, ⟨_, rfl, rfl⟩, ⟨_, rfl, rfl⟩, ⟨_, rfl, rfl⟩, ⟨_, rfl, rfl⟩, ⟨_, rfl, rfl⟩, ⟨_, rfl, rfl⟩, ⟨_, rfl, rfl⟩, ⟨_, rfl, rfl⟩, ⟨_, rfl, rfl⟩, ⟨_, rfl, rfl⟩, ⟨_, rfl, rfl⟩, ⟨_, rfl, rfl⟩, ⟨_, rfl, rfl⟩, ⟨_, rfl, rfl⟩, ⟨_, rfl, rfl⟩, ⟨_, rfl, rfl⟩, trivial⟩ (by decide) rfl) ?_
      refine Tr.iret dX9_whom_34 rfl (by first | rfl | exact bI_nar _) ?_ ?_
      · rfl
      · rfl
    · exact absurd (hc.symm.trans h5) (by decide)
  · rw [if_neg hc, if_neg hc]
    refine Md.of 0 (by decide) rfl rfl ?_
    refine Tr.aload_n (i := 0) dX9_whom_0 rfl rfl (Eq.refl 1) ?_
    refine Tr.iload_n (i := 1) dX9_whom_1 rfl rfl (Eq.refl 2) ?_
    refine Tr.callVr (L := [0, 72, 73, 74, 75, 76, 77, 78, 79, 80, 81, 82]) (x_isPerson E _ (rV ad r) hf V X x) dX9_whom_2 (kX9_134 (Nat.le_of_ble_eq_true rfl)) iX9_isPerson rfl rfl rfl rfl rfl rfl rfl rfl rfl (Eq.refl 5) ?_
    refine Tr.if_neB (tgt := 11) dX9_whom_5 (by decide) (Eq.refl 8) (fun h5 => ?_) (fun h5 => ?_)
    · exact absurd h5 hc
    · refine Tr.bipush (v := (-2)) dX9_whom_8 (by decide +kernel) (Eq.refl 10) ?_
      refine Tr.iret dX9_whom_10 rfl (by first | rfl | exact bI_nar _) ?_ ?_
      · rfl
      · rfl
set_option maxHeartbeats 4000000 in
set_option maxRecDepth 100000 in
theorem x_show (E : EnvT) (ad r : Nat → Nat) (hf : Int32) (T : Tst) (V : Vil) (X : Vix) (S : Scn) (P : Nat → Nat) (L : Nat → Int32) (a : Nat) (kp : Bool) (W : Nat → Nat) (x : Int32) (hV : Vok V) (hS : Sle V S) (hP : Ple P) (ht : psS S < 2 ^ 30) : Md E mX9_show ad [.ref (ad 0), .int x] (xtC E ad r hf T V X S P L a kp W) (some (.int (if ixB x (npV V) then nI (bcF (stT T V P L S) (nN x) 4).2.2 else -2))) (xtC E ad r hf (if ixB x (npV V) then (bcF (stT T V P L S) (nN x) 4).1 else T) V X S P L a kp W) := by
  have v1 := hV.1
  have v2 := hV.2.1
  have hT : Tok (stT T V P L S) := stT_ok hV hS hP ht
  by_cases hc : ixB x (npV V) = true
  · rw [if_pos hc, if_pos hc]
    obtain ⟨p, hp, rfl⟩ := ixB_n v2 hc
    rw [nN_n (by omega)]
    have eV : vT (stT T V P L S) = V := rfl
    refine Md.of 0 (by decide) rfl rfl ?_
    refine Tr.aload_n (i := 0) dX9_show_0 rfl rfl (Eq.refl 1) ?_
    refine Tr.iload_n (i := 1) dX9_show_1 rfl rfl (Eq.refl 2) ?_
    refine Tr.callVr (L := [0, 72, 73, 74, 75, 76, 77, 78, 79, 80, 81, 82]) (x_isPerson E _ (rV ad r) hf V X (nI p)) dX9_show_2 (kX9_134 (Nat.le_of_ble_eq_true rfl)) iX9_isPerson rfl rfl rfl rfl rfl rfl rfl rfl rfl (Eq.refl 5) ?_
    refine Tr.if_neB (tgt := 11) dX9_show_5 (by decide) (Eq.refl 8) (fun h5 => ?_) (fun h5 => ?_)
    · refine Tr.aload_n (i := 0) dX9_show_11 rfl rfl (Eq.refl 12) ?_
      refine Tr.getf dX9_show_12 fX9_46 rfl rfl (Eq.refl 15) ?_
      refine Tr.aload_n (i := 0) dX9_show_15 rfl rfl (Eq.refl 16) ?_
      refine Tr.getf dX9_show_16 fX9_28 rfl rfl (Eq.refl 19) ?_
      refine Tr.aload_n (i := 0) dX9_show_19 rfl rfl (Eq.refl 20) ?_
      refine Tr.getf dX9_show_20 fX9_35 rfl rfl (Eq.refl 23) ?_
      refine Tr.callV (L := l_so) (Md.refs 29 (fun k => some (ad (1 + 36 + 7 * k))) (c_setOut E _ T V X S P L a kp W) rfl rfl (dyS ad)) dX9_show_23 (kX9_213 (Nat.le_of_ble_eq_true rfl)) iX6_setOut rfl rfl rfl rfl rfl rfl rfl rfl rfl rfl (Eq.refl 26) ?_
      refine Tr.pic (w' := xtC E ad r hf (stT T V P L S) V X S P L a kp W) (putB_eq (Lc := [0]) 95 rfl rfl rfl rfl ⟨⟨_, rfl, rfl⟩, trivial⟩ (by decide) rfl) ?_
      generalize (stT T V P L S) = T2 at *
      refine Tr.aload_n (i := 0) dX9_show_26 rfl rfl (Eq.refl 27) ?_
      refine Tr.getf dX9_show_27 fX9_46 rfl rfl (Eq.refl 30) ?_
      refine Tr.iload_n (i := 1) dX9_show_30 rfl rfl (Eq.refl 31) ?_
      refine Tr.callV (L := l_tr) (Md.refs 29 (fun k => some (ad (1 + 36 + 7 * k))) (c_bestChairs E _ T2 p hT (by rw [eV]; exact hp)) rfl rfl (dyT ad)) dX9_show_31 (kX9_293 (Nat.le_of_ble_eq_true rfl)) iX6_bestChairs rfl rfl rfl rfl rfl rfl rfl rfl rfl rfl (Eq.refl 34) ?_
      refine Tr.pic (w' := xtC E ad r hf (bcF T2 p 4).1 V X S P L a kp W) (putB_eq (Lc := [0, 72, 73, 74, 75, 76, 77, 78, 79, 80, 81, 82, 83, 84, 85, 86, 87, 88, 89, 90, 91, 92, 93, 94]) 95 rfl rfl rfl rfl ⟨⟨_, rfl, rfl⟩, ⟨_, rfl, rfl⟩, ⟨_, rfl, rfl⟩, ⟨_, rfl, rfl⟩, ⟨_, rfl, rfl⟩, ⟨_, rfl, rfl⟩, ⟨_, rfl, rfl⟩, ⟨_, rfl, rfl⟩, ⟨_, rfl, rfl⟩, ⟨_, rfl, rfl⟩, ⟨_, rfl, rfl⟩, ⟨_, rfl, rfl⟩, ⟨_, rfl, rfl⟩, ⟨_, rfl, rfl⟩, ⟨_, rfl, rfl⟩, ⟨_, rfl, rfl⟩, ⟨_, rfl, rfl⟩, ⟨_, rfl, rfl⟩, ⟨_, rfl, rfl⟩, ⟨_, rfl, rfl⟩, ⟨_, rfl, rfl⟩, ⟨_, rfl, rfl⟩, ⟨_, rfl, rfl⟩, ⟨_, rfl, rfl⟩, trivial⟩ (by decide) rfl) ?_
      refine Tr.iret dX9_show_34 rfl (by first | rfl | exact bI_nar _) ?_ ?_
      · rfl
      · rfl
    · exact absurd (hc.symm.trans h5) (by decide)
  · rw [if_neg hc, if_neg hc]
    refine Md.of 0 (by decide) rfl rfl ?_
    refine Tr.aload_n (i := 0) dX9_show_0 rfl rfl (Eq.refl 1) ?_
    refine Tr.iload_n (i := 1) dX9_show_1 rfl rfl (Eq.refl 2) ?_
    refine Tr.callVr (L := [0, 72, 73, 74, 75, 76, 77, 78, 79, 80, 81, 82]) (x_isPerson E _ (rV ad r) hf V X x) dX9_show_2 (kX9_134 (Nat.le_of_ble_eq_true rfl)) iX9_isPerson rfl rfl rfl rfl rfl rfl rfl rfl rfl (Eq.refl 5) ?_
    refine Tr.if_neB (tgt := 11) dX9_show_5 (by decide) (Eq.refl 8) (fun h5 => ?_) (fun h5 => ?_)
    · exact absurd h5 hc
    · refine Tr.bipush (v := (-2)) dX9_show_8 (by decide +kernel) (Eq.refl 10) ?_
      refine Tr.iret dX9_show_10 rfl (by first | rfl | exact bI_nar _) ?_ ?_
      · rfl
      · rfl
set_option maxHeartbeats 4000000 in
set_option maxRecDepth 100000 in
theorem x_best (E : EnvT) (ad r : Nat → Nat) (hf : Int32) (T : Tst) (V : Vil) (X : Vix) (S : Scn) (P : Nat → Nat) (L : Nat → Int32) (a : Nat) (kp : Bool) (W : Nat → Nat) (x y : Int32) (hV : Vok V) (hS : Sle V S) (hP : Ple P) (ht : psS S < 2 ^ 30) : Md E mX9_best ad [.ref (ad 0), .int x, .int y] (xtC E ad r hf T V X S P L a kp W) (some (.int (if (ixB x (npV V) && rgB y (nI 0) (nI 4)) then (if y = nI 4 then bsT (fbT (stT T V P L S) (nN x)) else cl (bpl (fbT (stT T V P L S) (nN x)) (nN y))) else -1000000))) (xtC E ad r hf (if (ixB x (npV V) && rgB y (nI 0) (nI 4)) then (fbT (stT T V P L S) (nN x)) else T) V X S P L a kp W) := by
  have v1 := hV.1
  have v2 := hV.2.1
  have hT : Tok (stT T V P L S) := stT_ok hV hS hP ht
  by_cases hc : (ixB x (npV V) && rgB y (nI 0) (nI 4)) = true
  · rw [if_pos hc, if_pos hc]
    have hc1 : ixB x (npV V) = true := (Bool.and_eq_true_iff.mp hc).1
    have hc2 : rgB y (nI 0) (nI 4) = true := (Bool.and_eq_true_iff.mp hc).2
    obtain ⟨p, hp, rfl⟩ := ixB_n v2 hc1
    obtain ⟨k, -, hk, rfl⟩ := rgB_n (by decide) (by decide) hc2
    rw [nN_n (show p < 2 ^ 31 by omega), nN_n (show k < 2 ^ 31 by omega)]
    have eV3 : vT (fbT (stT T V P L S) p) = V := (fbT_same (stT T V P L S) p).1
    have eV : vT (stT T V P L S) = V := rfl
    refine Md.of 0 (by decide) rfl rfl ?_
    refine Tr.aload_n (i := 0) dX9_best_0 rfl rfl (Eq.refl 1) ?_
    refine Tr.iload_n (i := 1) dX9_best_1 rfl rfl (Eq.refl 2) ?_
    refine Tr.callVr (L := [0, 72, 73, 74, 75, 76, 77, 78, 79, 80, 81, 82]) (x_isPerson E _ (rV ad r) hf V X (nI p)) dX9_best_2 (kX9_134 (Nat.le_of_ble_eq_true rfl)) iX9_isPerson rfl rfl rfl rfl rfl rfl rfl rfl rfl (Eq.refl 5) ?_
    refine Tr.if_eqB (tgt := 17) dX9_best_5 (by decide) (Eq.refl 8) (fun h5 => ?_) (fun h5 => ?_)
    · exact absurd (hc1.symm.trans h5) (by decide)
    · refine Tr.iload_n (i := 2) dX9_best_8 rfl rfl (Eq.refl 9) ?_
      refine Tr.if_lt (tgt := 17) dX9_best_9 (by decide) (Eq.refl 12) (fun h9 => ?_) (fun h9 => ?_)
      · exact absurd h9 (nI_nneg (by omega))
      · refine Tr.iload_n (i := 2) dX9_best_12 rfl rfl (Eq.refl 13) ?_
        refine Tr.iconst (v := nI 4) dX9_best_13 (icN 4) (Eq.refl 14) ?_
        refine Tr.icmp_leN (tgt := 20) dX9_best_14 (by decide) (Eq.refl 17) (by omega) (by omega) (fun h14 => ?_) (fun h14 => ?_)
        · refine Tr.aload_n (i := 0) dX9_best_20 rfl rfl (Eq.refl 21) ?_
          refine Tr.getf dX9_best_21 fX9_46 rfl rfl (Eq.refl 24) ?_
          refine Tr.aload_n (i := 0) dX9_best_24 rfl rfl (Eq.refl 25) ?_
          refine Tr.getf dX9_best_25 fX9_28 rfl rfl (Eq.refl 28) ?_
          refine Tr.aload_n (i := 0) dX9_best_28 rfl rfl (Eq.refl 29) ?_
          refine Tr.getf dX9_best_29 fX9_35 rfl rfl (Eq.refl 32) ?_
          refine Tr.callV (L := l_so) (Md.refs 29 (fun k => some (ad (1 + 36 + 7 * k))) (c_setOut E _ T V X S P L a kp W) rfl rfl (dyS ad)) dX9_best_32 (kX9_213 (Nat.le_of_ble_eq_true rfl)) iX6_setOut rfl rfl rfl rfl rfl rfl rfl rfl rfl rfl (Eq.refl 35) ?_
          refine Tr.pic (w' := xtC E ad r hf (stT T V P L S) V X S P L a kp W) (putB_eq (Lc := [0]) 95 rfl rfl rfl rfl ⟨⟨_, rfl, rfl⟩, trivial⟩ (by decide) rfl) ?_
          generalize (stT T V P L S) = T2 at *
          refine Tr.aload_n (i := 0) dX9_best_35 rfl rfl (Eq.refl 36) ?_
          refine Tr.getf dX9_best_36 fX9_46 rfl rfl (Eq.refl 39) ?_
          refine Tr.iload_n (i := 1) dX9_best_39 rfl rfl (Eq.refl 40) ?_
          refine Tr.callV (L := l_tr) (Md.refs 29 (fun k => some (ad (1 + 36 + 7 * k))) (c_findBest E _ T2 p hT (by rw [eV]; exact hp)) rfl rfl (dyT ad)) dX9_best_40 (kX9_220 (Nat.le_of_ble_eq_true rfl)) iX6_findBest rfl rfl rfl rfl rfl rfl rfl rfl rfl rfl (Eq.refl 43) ?_
          refine Tr.pic (w' := xtC E ad r hf (fbT T2 p) V X S P L a kp W) (putB_eq (Lc := [0, 72, 73, 74, 75, 76, 77, 78, 79, 80, 81, 82, 83, 84, 85, 86, 87, 88, 89, 90, 91, 92, 93, 94]) 95 rfl rfl rfl rfl ⟨⟨_, rfl, rfl⟩, ⟨_, rfl, rfl⟩, ⟨_, rfl, rfl⟩, ⟨_, rfl, rfl⟩, ⟨_, rfl, rfl⟩, ⟨_, rfl, rfl⟩, ⟨_, rfl, rfl⟩, ⟨_, rfl, rfl⟩, ⟨_, rfl, rfl⟩, ⟨_, rfl, rfl⟩, ⟨_, rfl, rfl⟩, ⟨_, rfl, rfl⟩, ⟨_, rfl, rfl⟩, ⟨_, rfl, rfl⟩, ⟨_, rfl, rfl⟩, ⟨_, rfl, rfl⟩, ⟨_, rfl, rfl⟩, ⟨_, rfl, rfl⟩, ⟨_, rfl, rfl⟩, ⟨_, rfl, rfl⟩, ⟨_, rfl, rfl⟩, ⟨_, rfl, rfl⟩, ⟨_, rfl, rfl⟩, ⟨_, rfl, rfl⟩, trivial⟩ (by decide) rfl) ?_
          generalize fbT T2 p = T3 at *
          refine Tr.iload_n (i := 2) dX9_best_43 rfl rfl (Eq.refl 44) ?_
          refine Tr.iconst (v := nI 4) dX9_best_44 (icN 4) (Eq.refl 45) ?_
          refine Tr.icmp_neN (tgt := 58) dX9_best_45 (by decide) (Eq.refl 48) (by omega) (by omega) (fun h45 => ?_) (fun h45 => ?_)
          · rw [if_neg (fun z9 => h45 ((nI_eq_iff (by omega) (by decide)).mp z9))]
            refine Tr.aload_n (i := 0) dX9_best_58 rfl rfl (Eq.refl 59) ?_
            refine Tr.getf dX9_best_59 fX9_46 rfl rfl (Eq.refl 62) ?_
            refine Tr.iload_n (i := 2) dX9_best_62 rfl rfl (Eq.refl 63) ?_
            refine Tr.callVr (L := l_tr) (Md.refs 29 (fun k => some (ad (1 + 36 + 7 * k))) (c_bestPlace E _ T3 k (by rw [eV3]; exact hV) (by omega)) rfl rfl (dyT ad)) dX9_best_63 (kX9_226 (Nat.le_of_ble_eq_true rfl)) iX6_bestPlace rfl rfl rfl rfl rfl rfl rfl rfl rfl (Eq.refl 66) ?_
            refine Tr.iret dX9_best_66 rfl (by first | rfl | exact bI_nar _) ?_ ?_
            · rfl
            · rfl
          · rw [if_pos (by rw [h45])]
            refine Tr.aload_n (i := 0) dX9_best_48 rfl rfl (Eq.refl 49) ?_
            refine Tr.getf dX9_best_49 fX9_46 rfl rfl (Eq.refl 52) ?_
            refine Tr.getf dX9_best_52 fX9_223 rfl rfl (Eq.refl 55) ?_
            refine Tr.goto (pc' := 66) dX9_best_55 (by decide) ?_
            refine Tr.iret dX9_best_66 rfl (by first | rfl | exact bI_nar _) ?_ ?_
            · rfl
            · rfl
        · exact absurd h14 (by omega)
  · rw [if_neg hc, if_neg hc]
    refine Md.of 0 (by decide) rfl rfl ?_
    refine Tr.aload_n (i := 0) dX9_best_0 rfl rfl (Eq.refl 1) ?_
    refine Tr.iload_n (i := 1) dX9_best_1 rfl rfl (Eq.refl 2) ?_
    refine Tr.callVr (L := [0, 72, 73, 74, 75, 76, 77, 78, 79, 80, 81, 82]) (x_isPerson E _ (rV ad r) hf V X x) dX9_best_2 (kX9_134 (Nat.le_of_ble_eq_true rfl)) iX9_isPerson rfl rfl rfl rfl rfl rfl rfl rfl rfl (Eq.refl 5) ?_
    refine Tr.if_eqB (tgt := 17) dX9_best_5 (by decide) (Eq.refl 8) (fun h5 => ?_) (fun h5 => ?_)
    · refine Tr.ldc dX9_best_17 qX9_184 (Eq.refl 19) ?_
      refine Tr.iret dX9_best_19 rfl (by first | rfl | exact bI_nar _) ?_ ?_
      · rfl
      · rfl
    · refine Tr.iload_n (i := 2) dX9_best_8 rfl rfl (Eq.refl 9) ?_
      refine Tr.if_lt (tgt := 17) dX9_best_9 (by decide) (Eq.refl 12) (fun h9 => ?_) (fun h9 => ?_)
      · refine Tr.ldc dX9_best_17 qX9_184 (Eq.refl 19) ?_
        refine Tr.iret dX9_best_19 rfl (by first | rfl | exact bI_nar _) ?_ ?_
        · rfl
        · rfl
      · refine Tr.iload_n (i := 2) dX9_best_12 rfl rfl (Eq.refl 13) ?_
        refine Tr.iconst (v := nI 4) dX9_best_13 (icN 4) (Eq.refl 14) ?_
        refine Tr.icmp_leL (tgt := 20) dX9_best_14 (by decide) (Eq.refl 17) (fun h14 => ?_) (fun h14 => ?_)
        · exact absurd (by rw [h5, rgB_t (a := nI 0) (b := nI 4) h9 h14]; rfl) hc
        · refine Tr.ldc dX9_best_17 qX9_184 (Eq.refl 19) ?_
          refine Tr.iret dX9_best_19 rfl (by first | rfl | exact bI_nar _) ?_ ?_
          · rfl
          · rfl
set_option maxHeartbeats 4000000 in
set_option maxRecDepth 100000 in
theorem x_longer (E : EnvT) (ad r : Nat → Nat) (hf : Int32) (T : Tst) (V : Vil) (X : Vix) (S : Scn) (P : Nat → Nat) (L : Nat → Int32) (a : Nat) (kp : Bool) (W : Nat → Nat) (x y z : Int32) (hV : Vok V) (hS : Sle V S) (hP : Ple P) (ht : psS S < 2 ^ 30) : Md E mX9_longer ad [.ref (ad 0), .int x, .int y, .int z] (xtC E ad r hf T V X S P L a kp W) (some (.int (if (ixB x (nhV V) && rgB y (nI 1) (nI 60) && rgB z (nI 0) (nI 1)) then (if z = nI 0 then soS (sT (rqT (stT T V P L S) (nN y * 4))) (nN x) else stS (sT (rqT (stT T V P L S) (nN y * 4))) (nN x)) else -2))) (xtC E ad r hf (if (ixB x (nhV V) && rgB y (nI 1) (nI 60) && rgB z (nI 0) (nI 1)) then (rqT (stT T V P L S) (nN y * 4)) else T) V X S P L a kp W) := by
  have v1 := hV.1
  have v2 := hV.2.1
  have hT : Tok (stT T V P L S) := stT_ok hV hS hP ht
  by_cases hc : (ixB x (nhV V) && rgB y (nI 1) (nI 60) && rgB z (nI 0) (nI 1)) = true
  · rw [if_pos hc, if_pos hc]
    have hc0 := Bool.and_eq_true_iff.mp hc
    have hc1 : ixB x (nhV V) = true := (Bool.and_eq_true_iff.mp hc0.1).1
    have hc2 : rgB y (nI 1) (nI 60) = true := (Bool.and_eq_true_iff.mp hc0.1).2
    have hc3 : rgB z (nI 0) (nI 1) = true := hc0.2
    obtain ⟨h, hh, rfl⟩ := ixB_n v1 hc1
    obtain ⟨d, hd1, hd, rfl⟩ := rgB_n (by decide) (by decide) hc2
    obtain ⟨k, -, hk, rfl⟩ := rgB_n (by decide) (by decide) hc3
    rw [nN_n (show h < 2 ^ 31 by omega), nN_n (show d < 2 ^ 31 by omega)]
    have eV : vT (stT T V P L S) = V := rfl
    refine Md.of 0 (by decide) rfl rfl ?_
    refine Tr.aload_n (i := 0) dX9_longer_0 rfl rfl (Eq.refl 1) ?_
    refine Tr.iload_n (i := 1) dX9_longer_1 rfl rfl (Eq.refl 2) ?_
    refine Tr.callVr (L := [0, 72, 73, 74, 75, 76, 77, 78, 79, 80, 81, 82]) (x_isHouse E _ (rV ad r) hf V X (nI h)) dX9_longer_2 (kX9_118 (Nat.le_of_ble_eq_true rfl)) iX9_isHouse rfl rfl rfl rfl rfl rfl rfl rfl rfl (Eq.refl 5) ?_
    refine Tr.if_eqB (tgt := 28) dX9_longer_5 (by decide) (Eq.refl 8) (fun h5 => ?_) (fun h5 => ?_)
    · exact absurd (hc1.symm.trans h5) (by decide)
    · refine Tr.iload_n (i := 2) dX9_longer_8 rfl rfl (Eq.refl 9) ?_
      refine Tr.iconst (v := nI 1) dX9_longer_9 (icN 1) (Eq.refl 10) ?_
      refine Tr.icmp_ltN (tgt := 28) dX9_longer_10 (by decide) (Eq.refl 13) (by omega) (by omega) (fun h10 => ?_) (fun h10 => ?_)
      · exact absurd h10 (by omega)
      · refine Tr.iload_n (i := 2) dX9_longer_13 rfl rfl (Eq.refl 14) ?_
        refine Tr.bipush (v := nI 60) dX9_longer_14 (by decide +kernel) (Eq.refl 16) ?_
        refine Tr.icmp_gtN (tgt := 28) dX9_longer_16 (by decide) (Eq.refl 19) (by omega) (by omega) (fun h16 => ?_) (fun h16 => ?_)
        · exact absurd h16 (by omega)
        · refine Tr.iload_n (i := 3) dX9_longer_19 rfl rfl (Eq.refl 20) ?_
          refine Tr.if_lt (tgt := 28) dX9_longer_20 (by decide) (Eq.refl 23) (fun h20 => ?_) (fun h20 => ?_)
          · exact absurd h20 (nI_nneg (by omega))
          · refine Tr.iload_n (i := 3) dX9_longer_23 rfl rfl (Eq.refl 24) ?_
            refine Tr.iconst (v := nI 1) dX9_longer_24 (icN 1) (Eq.refl 25) ?_
            refine Tr.icmp_leN (tgt := 31) dX9_longer_25 (by decide) (Eq.refl 28) (by omega) (by omega) (fun h25 => ?_) (fun h25 => ?_)
            · refine Tr.aload_n (i := 0) dX9_longer_31 rfl rfl (Eq.refl 32) ?_
              refine Tr.getf dX9_longer_32 fX9_46 rfl rfl (Eq.refl 35) ?_
              refine Tr.aload_n (i := 0) dX9_longer_35 rfl rfl (Eq.refl 36) ?_
              refine Tr.getf dX9_longer_36 fX9_28 rfl rfl (Eq.refl 39) ?_
              refine Tr.aload_n (i := 0) dX9_longer_39 rfl rfl (Eq.refl 40) ?_
              refine Tr.getf dX9_longer_40 fX9_35 rfl rfl (Eq.refl 43) ?_
              refine Tr.callV (L := l_so) (Md.refs 29 (fun k => some (ad (1 + 36 + 7 * k))) (c_setOut E _ T V X S P L a kp W) rfl rfl (dyS ad)) dX9_longer_43 (kX9_213 (Nat.le_of_ble_eq_true rfl)) iX6_setOut rfl rfl rfl rfl rfl rfl rfl rfl rfl rfl (Eq.refl 46) ?_
              refine Tr.pic (w' := xtC E ad r hf (stT T V P L S) V X S P L a kp W) (putB_eq (Lc := [0]) 95 rfl rfl rfl rfl ⟨⟨_, rfl, rfl⟩, trivial⟩ (by decide) rfl) ?_
              generalize (stT T V P L S) = T2 at *
              refine Tr.aload_n (i := 0) dX9_longer_46 rfl rfl (Eq.refl 47) ?_
              refine Tr.getf dX9_longer_47 fX9_46 rfl rfl (Eq.refl 50) ?_
              refine Tr.iload_n (i := 2) dX9_longer_50 rfl rfl (Eq.refl 51) ?_
              refine Tr.iconst (v := nI 4) dX9_longer_51 (icN 4) (Eq.refl 52) ?_
              refine Tr.imulN dX9_longer_52 (Eq.refl 53) ?_
              refine Tr.callV (L := l_tr) (Md.refs 29 (fun k => some (ad (1 + 36 + 7 * k))) (c_runQuarters E _ T2 (d * 4) hT (by omega)) rfl rfl (dyT ad)) dX9_longer_53 (kX9_243 (Nat.le_of_ble_eq_true rfl)) iX6_runQuarters rfl rfl rfl rfl rfl rfl rfl rfl rfl rfl (Eq.refl 56) ?_
              refine Tr.pic (w' := xtC E ad r hf (rqT T2 (d * 4)) V X S P L a kp W) (putB_eq (Lc := [0, 72, 73, 74, 75, 76, 77, 78, 79, 80, 81, 82, 83, 84, 85, 86, 87, 88, 89, 90, 91, 92, 93, 94]) 95 rfl rfl rfl rfl ⟨⟨_, rfl, rfl⟩, ⟨_, rfl, rfl⟩, ⟨_, rfl, rfl⟩, ⟨_, rfl, rfl⟩, ⟨_, rfl, rfl⟩, ⟨_, rfl, rfl⟩, ⟨_, rfl, rfl⟩, ⟨_, rfl, rfl⟩, ⟨_, rfl, rfl⟩, ⟨_, rfl, rfl⟩, ⟨_, rfl, rfl⟩, ⟨_, rfl, rfl⟩, ⟨_, rfl, rfl⟩, ⟨_, rfl, rfl⟩, ⟨_, rfl, rfl⟩, ⟨_, rfl, rfl⟩, ⟨_, rfl, rfl⟩, ⟨_, rfl, rfl⟩, ⟨_, rfl, rfl⟩, ⟨_, rfl, rfl⟩, ⟨_, rfl, rfl⟩, ⟨_, rfl, rfl⟩, ⟨_, rfl, rfl⟩, ⟨_, rfl, rfl⟩, trivial⟩ (by decide) rfl) ?_
              generalize rqT T2 (d * 4) = T3 at *
              refine Tr.iload_n (i := 3) dX9_longer_56 rfl rfl (Eq.refl 57) ?_
              refine Tr.if_ne (tgt := 75) dX9_longer_57 (by decide) (Eq.refl 60) (fun h57 => ?_) (fun h57 => ?_)
              · rw [if_neg (show ¬ nI k = nI 0 from h57)]
                refine Tr.aload_n (i := 0) dX9_longer_75 rfl rfl (Eq.refl 76) ?_
                refine Tr.getf dX9_longer_76 fX9_46 rfl rfl (Eq.refl 79) ?_
                refine Tr.getf dX9_longer_79 fX9_246 rfl rfl (Eq.refl 82) ?_
                refine Tr.getf dX9_longer_82 fX9_202 rfl rfl (Eq.refl 85) ?_
                refine Tr.iload_n (i := 1) dX9_longer_85 rfl rfl (Eq.refl 86) ?_
                refine Tr.ialdN dX9_longer_86 rfl (by omega) (by decide) (Eq.refl 87) ?_
                refine Tr.iret dX9_longer_87 rfl (by first | rfl | exact bI_nar _) ?_ ?_
                · rfl
                · rfl
              · rw [if_pos (show nI k = nI 0 from h57)]
                refine Tr.aload_n (i := 0) dX9_longer_60 rfl rfl (Eq.refl 61) ?_
                refine Tr.getf dX9_longer_61 fX9_46 rfl rfl (Eq.refl 64) ?_
                refine Tr.getf dX9_longer_64 fX9_246 rfl rfl (Eq.refl 67) ?_
                refine Tr.getf dX9_longer_67 fX9_201 rfl rfl (Eq.refl 70) ?_
                refine Tr.iload_n (i := 1) dX9_longer_70 rfl rfl (Eq.refl 71) ?_
                refine Tr.ialdN dX9_longer_71 rfl (by omega) (by decide) (Eq.refl 72) ?_
                refine Tr.goto (pc' := 87) dX9_longer_72 (by decide) ?_
                refine Tr.iret dX9_longer_87 rfl (by first | rfl | exact bI_nar _) ?_ ?_
                · rfl
                · rfl
            · exact absurd h25 (by omega)
  · rw [if_neg hc, if_neg hc]
    refine Md.of 0 (by decide) rfl rfl ?_
    refine Tr.aload_n (i := 0) dX9_longer_0 rfl rfl (Eq.refl 1) ?_
    refine Tr.iload_n (i := 1) dX9_longer_1 rfl rfl (Eq.refl 2) ?_
    refine Tr.callVr (L := [0, 72, 73, 74, 75, 76, 77, 78, 79, 80, 81, 82]) (x_isHouse E _ (rV ad r) hf V X x) dX9_longer_2 (kX9_118 (Nat.le_of_ble_eq_true rfl)) iX9_isHouse rfl rfl rfl rfl rfl rfl rfl rfl rfl (Eq.refl 5) ?_
    refine Tr.if_eqB (tgt := 28) dX9_longer_5 (by decide) (Eq.refl 8) (fun h5 => ?_) (fun h5 => ?_)
    · refine Tr.bipush (v := (-2)) dX9_longer_28 (by decide +kernel) (Eq.refl 30) ?_
      refine Tr.iret dX9_longer_30 rfl (by first | rfl | exact bI_nar _) ?_ ?_
      · rfl
      · rfl
    · refine Tr.iload_n (i := 2) dX9_longer_8 rfl rfl (Eq.refl 9) ?_
      refine Tr.iconst (v := nI 1) dX9_longer_9 (icN 1) (Eq.refl 10) ?_
      refine Tr.icmp_lt (tgt := 28) dX9_longer_10 (by decide) (Eq.refl 13) (fun h10 => ?_) (fun h10 => ?_)
      · refine Tr.bipush (v := (-2)) dX9_longer_28 (by decide +kernel) (Eq.refl 30) ?_
        refine Tr.iret dX9_longer_30 rfl (by first | rfl | exact bI_nar _) ?_ ?_
        · rfl
        · rfl
      · refine Tr.iload_n (i := 2) dX9_longer_13 rfl rfl (Eq.refl 14) ?_
        refine Tr.bipush (v := nI 60) dX9_longer_14 (by decide +kernel) (Eq.refl 16) ?_
        refine Tr.icmp_gt (tgt := 28) dX9_longer_16 (by decide) (Eq.refl 19) (fun h16 => ?_) (fun h16 => ?_)
        · refine Tr.bipush (v := (-2)) dX9_longer_28 (by decide +kernel) (Eq.refl 30) ?_
          refine Tr.iret dX9_longer_30 rfl (by first | rfl | exact bI_nar _) ?_ ?_
          · rfl
          · rfl
        · refine Tr.iload_n (i := 3) dX9_longer_19 rfl rfl (Eq.refl 20) ?_
          refine Tr.if_lt (tgt := 28) dX9_longer_20 (by decide) (Eq.refl 23) (fun h20 => ?_) (fun h20 => ?_)
          · refine Tr.bipush (v := (-2)) dX9_longer_28 (by decide +kernel) (Eq.refl 30) ?_
            refine Tr.iret dX9_longer_30 rfl (by first | rfl | exact bI_nar _) ?_ ?_
            · rfl
            · rfl
          · refine Tr.iload_n (i := 3) dX9_longer_23 rfl rfl (Eq.refl 24) ?_
            refine Tr.iconst (v := nI 1) dX9_longer_24 (icN 1) (Eq.refl 25) ?_
            refine Tr.icmp_leL (tgt := 31) dX9_longer_25 (by decide) (Eq.refl 28) (fun h25 => ?_) (fun h25 => ?_)
            · exact absurd (by rw [h5, rgB_t (a := nI 1) (b := nI 60) h10 h16, rgB_t (a := nI 0) (b := nI 1) h20 h25]; rfl) hc
            · refine Tr.bipush (v := (-2)) dX9_longer_28 (by decide +kernel) (Eq.refl 30) ?_
              refine Tr.iret dX9_longer_30 rfl (by first | rfl | exact bI_nar _) ?_ ?_
              · rfl
              · rfl
