/-! TOKENS, and how the reference reads them -/
def isBl (n : Nat) : Bool := decide (n = 32) || decide (n = 10)
def isSm (n : Nat) : Bool := decide (97 ≤ n) && decide (n ≤ 122)
def isDg (n : Nat) : Bool := decide (48 ≤ n) && decide (n ≤ 57)
/-- from p on while g holds, at most n -/
def runF (g : Nat → Bool) (T : Nat → Nat) : Nat → Nat → Nat
  | 0, p => p
  | n + 1, p => if g (T p) then runF g T n (p + 1) else p
theorem runF_le (g : Nat → Bool) (T : Nat → Nat) : ∀ n p, p ≤ runF g T n p ∧ runF g T n p ≤ p + n := by
  intro n
  induction n with
  | zero => intro p; exact ⟨Nat.le_refl p, Nat.le_refl p⟩
  | succ n ih =>
    intro p
    unfold runF
    split
    · have := ih (p + 1); omega
    · omega
/-- a token from p on: where it begins, ends, its kind (0 end, 1 word, 2 number, 3 sign, 5 bad) -/
def tkS (T : Nat → Nat) (len p : Nat) : Nat := runF isBl T (len - p) p
def tkE (T : Nat → Nat) (len p : Nat) : Nat := if tkS T len p < len then (if isSm (T (tkS T len p)) then runF isSm T (len - tkS T len p) (tkS T len p) else if isDg (T (tkS T len p)) then runF isDg T (len - tkS T len p) (tkS T len p) else tkS T len p + 1) else tkS T len p
def tkK (T : Nat → Nat) (len p : Nat) : Nat := if tkS T len p < len then (if isSm (T (tkS T len p)) then (if 8 < tkE T len p - tkS T len p then 5 else 1) else if isDg (T (tkS T len p)) then (if 3 < tkE T len p - tkS T len p then 5 else 2) else if T (tkS T len p) = 59 then 3 else 5) else 0
/-- the first three digits -/
def vlF (T : Nat → Nat) (s : Nat) : Nat → Nat
  | 0 => 0
  | j + 1 => if j < 3 then 10 * vlF T s j + (T (s + j) - 48) else vlF T s j
theorem tkS_le (T : Nat → Nat) {len p : Nat} (h : p ≤ len) : p ≤ tkS T len p ∧ tkS T len p ≤ len := by
  have := runF_le isBl T (len - p) p
  unfold tkS
  omega
theorem tkE_le (T : Nat → Nat) {len p : Nat} (h : p ≤ len) : tkS T len p ≤ tkE T len p ∧ tkE T len p ≤ len := by
  have h1 := tkS_le T h
  have h2 := runF_le isSm T (len - tkS T len p) (tkS T len p)
  have h3 := runF_le isDg T (len - tkS T len p) (tkS T len p)
  unfold tkE
  split
  · split
    · omega
    · split
      · omega
      · omega
  · omega
/-- the reference's hand and value behind the token -/
def tkH (T : Nat → Nat) (len p : Nat) : Nat := if tkK T len p = 5 then 4 else tkK T len p
def tkV (T : Nat → Nat) (len p vl : Nat) : Nat := if tkS T len p < len ∧ isSm (T (tkS T len p)) = false ∧ isDg (T (tkS T len p)) = true then vlF T (tkS T len p) (tkE T len p - tkS T len p) else vl
theorem sb_255 : ∀ n : Fin 256, sb n.1 &&& nI 255 = nI n.1 := by decide +kernel
theorem sb_and {n : Nat} (h : n < 256) : sb n &&& nI 255 = nI n := sb_255 ⟨n, h⟩
theorem sb_32 : ∀ n : Fin 256, (sb n.1 = nI 32 ↔ n.1 = 32) ∧ (sb n.1 = nI 10 ↔ n.1 = 10) := by decide +kernel
def msO (ad r : Nat → Nat) (i : Nat → Int32) (len fr bh hd vl : Nat) : va_E := .inr (10, [.ref (ad 1), .int (i 1), .int (nI len), .int (nI fr), .int (nI bh), .int (nI hd), .int (nI vl), .int (i 7), .int (i 8), .int (i 9), .int (i 10), .int (i 11), .int (i 12), .int (i 13), .int (i 14), .int (i 15), .int (i 16), .int (i 17), .int (i 18), .ref (r 19), .ref (r 20), .ref (r 21), .ref (r 22), .ref (r 23), .ref (r 24), .ref (r 25), .ref (r 26), .ref (r 27), .ref (r 28), .ref (r 29), .ref (r 30), .ref (r 31), .ref (r 32), .ref (r 33), .ref (r 34), .ref (r 35), .ref (r 36), .int (i 37), .ref (r 38), .ref (r 39), .int (i 40), .int (i 41), .int (i 42), .int (i 43), .int (i 44), .int (i 45), .ref (r 46), .ref (r 47), .ref (r 48), .ref (r 49), .ref (r 50), .ref (r 51), .int (i 52), .int (i 53), .ref (r 54), .int (i 55), .int (i 56), .ref (r 57), .ref (r 58), .ref (r 59), .int (i 60)])
def msC (E : EnvT) (ad r : Nat → Nat) (i : Nat → Int32) (len fr bh hd vl : Nat) (T : Nat → Nat) : List va_E := [msO ad r i len fr bh hd vl, aB E 900 (fun k => sb (T k))]
theorem ms_le {E E2 : EnvT} {ad r ad2 r2 : Nat → Nat} {i i2 : Nat → Int32} {len fr bh hd vl len2 fr2 bh2 hd2 vl2 : Nat} {T T2 : Nat → Nat} : (msC E ad r i len fr bh hd vl T).length ≤ (msC E2 ad2 r2 i2 len2 fr2 bh2 hd2 vl2 T2).length := Nat.le_refl 2
def bAt (T : Nat → Nat) (len k : Nat) : Nat := if k < len then T k else 0
set_option maxHeartbeats 4000000 in
set_option maxRecDepth 100000 in
theorem m_byteAt (E : EnvT) (ad r : Nat → Nat) (i : Nat → Int32) (len fr bh hd vl : Nat) (T : Nat → Nat) (k : Nat) (hl : len ≤ 900) (hT : ∀ k, k < 900 → T k < 256) (hk : k < 2 ^ 31) : Md E mX10_byteAt ad [.ref (ad 0), .int (nI k)] (msC E ad r i len fr bh hd vl T) (some (.int (nI (bAt T len k)))) (msC E ad r i len fr bh hd vl T) := by
  unfold bAt
  refine Md.of 0 (by decide) rfl rfl ?_
  refine Tr.iload_n (i := 1) dX10_byteAt_0 rfl rfl (Eq.refl 1) ?_
  refine Tr.aload_n (i := 0) dX10_byteAt_1 rfl rfl (Eq.refl 2) ?_
  refine Tr.getf dX10_byteAt_2 fX10_13 rfl rfl (Eq.refl 5) ?_
  refine Tr.icmp_geN (tgt := 21) dX10_byteAt_5 (by decide) (Eq.refl 8) (by omega) (by omega) (fun h5 => ?_) (fun h5 => ?_)
  · rw [if_neg (by omega)]
    refine Tr.iconst (v := nI 0) dX10_byteAt_21 (icN 0) (Eq.refl 22) ?_
    refine Tr.iret dX10_byteAt_22 rfl (by first | rfl | exact bI_nar _) ?_ ?_
    · rfl
    · rfl
  · rw [if_pos (by omega)]
    refine Tr.aload_n (i := 0) dX10_byteAt_8 rfl rfl (Eq.refl 9) ?_
    refine Tr.getf dX10_byteAt_9 fX10_16 rfl rfl (Eq.refl 12) ?_
    refine Tr.iload_n (i := 1) dX10_byteAt_12 rfl rfl (Eq.refl 13) ?_
    refine Tr.baldN dX10_byteAt_13 rfl (by omega) (by decide) (Eq.refl 14) ?_
    refine Tr.sipush (v := nI 255) dX10_byteAt_14 (by decide +kernel) (Eq.refl 17) ?_
    refine Tr.iand dX10_byteAt_17 (Eq.refl 18) ?_
    refine Tr.top (sb_and (hT k (by omega))) ?_
    refine Tr.goto (pc' := 22) dX10_byteAt_18 (by decide) ?_
    refine Tr.iret dX10_byteAt_22 rfl (by first | rfl | exact bI_nar _) ?_ ?_
    · rfl
    · rfl
set_option maxHeartbeats 4000000 in
set_option maxRecDepth 100000 in
theorem m_isSmall (E : EnvT) (ad : Nat → Nat) (n : Nat) (hn : n < 256) : Md E mX10_isSmall ad [.int (nI n)] [] (some (.int (bI (isSm n)))) [] := by
  refine Md.of 0 (by decide) rfl rfl ?_
  refine Tr.iload_n (i := 0) dX10_isSmall_0 rfl rfl (Eq.refl 1) ?_
  refine Tr.bipush (v := nI 97) dX10_isSmall_1 (by decide +kernel) (Eq.refl 3) ?_
  refine Tr.icmp_ltN (tgt := 16) dX10_isSmall_3 (by decide) (Eq.refl 6) (by omega) (by omega) (fun h3 => ?_) (fun h3 => ?_)
  · rw [show isSm n = false from by unfold isSm; rw [decide_eq_false (by omega), Bool.false_and]]
    refine Tr.iconst (v := nI 0) dX10_isSmall_16 (icN 0) (Eq.refl 17) ?_
    refine Tr.iret dX10_isSmall_17 rfl (by first | rfl | exact bI_nar _) ?_ ?_
    · rfl
    · rfl
  · refine Tr.iload_n (i := 0) dX10_isSmall_6 rfl rfl (Eq.refl 7) ?_
    refine Tr.bipush (v := nI 122) dX10_isSmall_7 (by decide +kernel) (Eq.refl 9) ?_
    refine Tr.icmp_gtN (tgt := 16) dX10_isSmall_9 (by decide) (Eq.refl 12) (by omega) (by omega) (fun h9 => ?_) (fun h9 => ?_)
    · rw [show isSm n = false from by unfold isSm; rw [decide_eq_false (show ¬ n ≤ 122 by omega), Bool.and_false]]
      refine Tr.iconst (v := nI 0) dX10_isSmall_16 (icN 0) (Eq.refl 17) ?_
      refine Tr.iret dX10_isSmall_17 rfl (by first | rfl | exact bI_nar _) ?_ ?_
      · rfl
      · rfl
    · rw [show isSm n = true from by unfold isSm; rw [decide_eq_true (show 97 ≤ n by omega), decide_eq_true (show n ≤ 122 by omega)]; rfl]
      refine Tr.iconst (v := nI 1) dX10_isSmall_12 (icN 1) (Eq.refl 13) ?_
      refine Tr.goto (pc' := 17) dX10_isSmall_13 (by decide) ?_
      refine Tr.iret dX10_isSmall_17 rfl (by first | rfl | exact bI_nar _) ?_ ?_
      · rfl
      · rfl
set_option maxHeartbeats 4000000 in
set_option maxRecDepth 100000 in
theorem m_isDigit (E : EnvT) (ad : Nat → Nat) (n : Nat) (hn : n < 256) : Md E mX10_isDigit ad [.int (nI n)] [] (some (.int (bI (isDg n)))) [] := by
  refine Md.of 0 (by decide) rfl rfl ?_
  refine Tr.iload_n (i := 0) dX10_isDigit_0 rfl rfl (Eq.refl 1) ?_
  refine Tr.bipush (v := nI 48) dX10_isDigit_1 (by decide +kernel) (Eq.refl 3) ?_
  refine Tr.icmp_ltN (tgt := 16) dX10_isDigit_3 (by decide) (Eq.refl 6) (by omega) (by omega) (fun h3 => ?_) (fun h3 => ?_)
  · rw [show isDg n = false from by unfold isDg; rw [decide_eq_false (by omega), Bool.false_and]]
    refine Tr.iconst (v := nI 0) dX10_isDigit_16 (icN 0) (Eq.refl 17) ?_
    refine Tr.iret dX10_isDigit_17 rfl (by first | rfl | exact bI_nar _) ?_ ?_
    · rfl
    · rfl
  · refine Tr.iload_n (i := 0) dX10_isDigit_6 rfl rfl (Eq.refl 7) ?_
    refine Tr.bipush (v := nI 57) dX10_isDigit_7 (by decide +kernel) (Eq.refl 9) ?_
    refine Tr.icmp_gtN (tgt := 16) dX10_isDigit_9 (by decide) (Eq.refl 12) (by omega) (by omega) (fun h9 => ?_) (fun h9 => ?_)
    · rw [show isDg n = false from by unfold isDg; rw [decide_eq_false (show ¬ n ≤ 57 by omega), Bool.and_false]]
      refine Tr.iconst (v := nI 0) dX10_isDigit_16 (icN 0) (Eq.refl 17) ?_
      refine Tr.iret dX10_isDigit_17 rfl (by first | rfl | exact bI_nar _) ?_ ?_
      · rfl
      · rfl
    · rw [show isDg n = true from by unfold isDg; rw [decide_eq_true (show 48 ≤ n by omega), decide_eq_true (show n ≤ 57 by omega)]; rfl]
      refine Tr.iconst (v := nI 1) dX10_isDigit_12 (icN 1) (Eq.refl 13) ?_
      refine Tr.goto (pc' := 17) dX10_isDigit_13 (by decide) ?_
      refine Tr.iret dX10_isDigit_17 rfl (by first | rfl | exact bI_nar _) ?_ ?_
      · rfl
      · rfl
set_option maxHeartbeats 4000000 in
set_option maxRecDepth 100000 in
theorem m_scan_bl (E : EnvT) (ad r : Nat → Nat) (i : Nat → Int32) (len fr hd vl : Nat) (T : Nat → Nat) (w' : List va_E) (hl : len ≤ 900) (hT : ∀ k, k < 900 → T k < 256) : ∀ (n p : Nat), p + n = len → (∀ p', p' = runF isBl T n p → Tr (E, mX10_scan, ad, none, w') 0 0 52 [some (.ref (ad 0)), none] [] (msC E ad r i len fr p' hd vl T)) → Tr (E, mX10_scan, ad, none, w') 0 0 0 [some (.ref (ad 0)), none] [] (msC E ad r i len fr p hd vl T) := by
  intro n
  induction n with
  | zero =>
    intro p hp hk
    have hk2 := hk p rfl
    refine Tr.aload_n (i := 0) dX10_scan_0 rfl rfl (Eq.refl 1) ?_
    refine Tr.getf dX10_scan_1 fX10_20 rfl rfl (Eq.refl 4) ?_
    refine Tr.aload_n (i := 0) dX10_scan_4 rfl rfl (Eq.refl 5) ?_
    refine Tr.getf dX10_scan_5 fX10_13 rfl rfl (Eq.refl 8) ?_
    refine Tr.icmp_geN (tgt := 52) dX10_scan_8 (by decide) (Eq.refl 11) (by omega) (by omega) (fun h8 => ?_) (fun h8 => ?_)
    · exact Tr.eqs rfl rfl rfl hk2
    · exact absurd h8 (by omega)
  | succ n ih =>
    intro p hp hk
    have hTp := hT p (by omega)
    obtain ⟨s1, s2⟩ := sb_32 ⟨T p, hTp⟩
    have s1 : sb (T p) = nI 32 ↔ T p = 32 := s1
    have s2 : sb (T p) = nI 10 ↔ T p = 10 := s2
    have hu : runF isBl T (n + 1) p = if isBl (T p) then runF isBl T n (p + 1) else p := rfl
    rw [hu] at hk
    clear hu
    refine Tr.aload_n (i := 0) dX10_scan_0 rfl rfl (Eq.refl 1) ?_
    refine Tr.getf dX10_scan_1 fX10_20 rfl rfl (Eq.refl 4) ?_
    refine Tr.aload_n (i := 0) dX10_scan_4 rfl rfl (Eq.refl 5) ?_
    refine Tr.getf dX10_scan_5 fX10_13 rfl rfl (Eq.refl 8) ?_
    refine Tr.icmp_geN (tgt := 52) dX10_scan_8 (by decide) (Eq.refl 11) (by omega) (by omega) (fun h8 => ?_) (fun h8 => ?_)
    · exact absurd h8 (by omega)
    · refine Tr.aload_n (i := 0) dX10_scan_11 rfl rfl (Eq.refl 12) ?_
      refine Tr.getf dX10_scan_12 fX10_16 rfl rfl (Eq.refl 15) ?_
      refine Tr.aload_n (i := 0) dX10_scan_15 rfl rfl (Eq.refl 16) ?_
      refine Tr.getf dX10_scan_16 fX10_20 rfl rfl (Eq.refl 19) ?_
      refine Tr.baldN dX10_scan_19 rfl (by omega) (by decide) (Eq.refl 20) ?_
      refine Tr.bipush (v := nI 32) dX10_scan_20 (by decide +kernel) (Eq.refl 22) ?_
      refine Tr.icmp_eq (tgt := 39) dX10_scan_22 (by decide) (Eq.refl 25) (fun h22 => ?_) (fun h22 => ?_)
      · rw [s1] at h22
        have hbl : isBl (T p) = true := by unfold isBl; rw [decide_eq_true h22, Bool.true_or]
        skip
        rw [if_pos hbl] at hk
        refine Tr.aload_n (i := 0) dX10_scan_39 rfl rfl (Eq.refl 40) ?_
        refine Tr.dup dX10_scan_40 rfl (Eq.refl 41) ?_
        refine Tr.getf dX10_scan_41 fX10_20 rfl rfl (Eq.refl 44) ?_
        refine Tr.iconst (v := nI 1) dX10_scan_44 (icN 1) (Eq.refl 45) ?_
        refine Tr.iaddN dX10_scan_45 (Eq.refl 46) ?_
        refine Tr.putf dX10_scan_46 pX10_20 rfl (rfl) (rfl) rfl (Eq.refl 49) ?_
        refine Tr.goto (pc' := 0) dX10_scan_49 (by decide) ?_
        exact Tr.eqs rfl rfl rfl (ih (p + 1) (by omega) hk)
      · rw [s1] at h22
        refine Tr.aload_n (i := 0) dX10_scan_25 rfl rfl (Eq.refl 26) ?_
        refine Tr.getf dX10_scan_26 fX10_16 rfl rfl (Eq.refl 29) ?_
        refine Tr.aload_n (i := 0) dX10_scan_29 rfl rfl (Eq.refl 30) ?_
        refine Tr.getf dX10_scan_30 fX10_20 rfl rfl (Eq.refl 33) ?_
        refine Tr.baldN dX10_scan_33 rfl (by omega) (by decide) (Eq.refl 34) ?_
        refine Tr.bipush (v := nI 10) dX10_scan_34 (by decide +kernel) (Eq.refl 36) ?_
        refine Tr.icmp_ne (tgt := 52) dX10_scan_36 (by decide) (Eq.refl 39) (fun h36 => ?_) (fun h36 => ?_)
        · rw [s2] at h36
          rw [if_neg (show ¬ isBl (T p) = true by unfold isBl; rw [decide_eq_false h22, decide_eq_false h36]; decide)] at hk
          exact Tr.eqs rfl rfl rfl (hk p rfl)
        · rw [s2] at h36
          have hbl : isBl (T p) = true := by unfold isBl; rw [decide_eq_true h36, Bool.or_true]
          skip
          rw [if_pos hbl] at hk
          refine Tr.aload_n (i := 0) dX10_scan_39 rfl rfl (Eq.refl 40) ?_
          refine Tr.dup dX10_scan_40 rfl (Eq.refl 41) ?_
          refine Tr.getf dX10_scan_41 fX10_20 rfl rfl (Eq.refl 44) ?_
          refine Tr.iconst (v := nI 1) dX10_scan_44 (icN 1) (Eq.refl 45) ?_
          refine Tr.iaddN dX10_scan_45 (Eq.refl 46) ?_
          refine Tr.putf dX10_scan_46 pX10_20 rfl (rfl) (rfl) rfl (Eq.refl 49) ?_
          refine Tr.goto (pc' := 0) dX10_scan_49 (by decide) ?_
          exact Tr.eqs rfl rfl rfl (ih (p + 1) (by omega) hk)
set_option maxHeartbeats 4000000 in
set_option maxRecDepth 100000 in
theorem m_scan_sm (E : EnvT) (ad r : Nat → Nat) (i : Nat → Int32) (len fr hd vl : Nat) (T : Nat → Nat) (w' : List va_E) (c : Option Value) (hl : len ≤ 900) (hT : ∀ k, k < 900 → T k < 256) : ∀ (n p : Nat), p + n = len → (∀ p', p' = runF isSm T n p → Tr (E, mX10_scan, ad, none, w') 0 0 122 [some (.ref (ad 0)), c] [] (msC E ad r i len fr p' hd vl T)) → Tr (E, mX10_scan, ad, none, w') 0 0 95 [some (.ref (ad 0)), c] [] (msC E ad r i len fr p hd vl T) := by
  intro n
  induction n with
  | zero =>
    intro p hp hk
    have hb : bAt T len p = 0 := if_neg (by omega)
    have hk2 := hk p rfl
    refine Tr.aload_n (i := 0) dX10_scan_95 rfl rfl (Eq.refl 96) ?_
    refine Tr.aload_n (i := 0) dX10_scan_96 rfl rfl (Eq.refl 97) ?_
    refine Tr.getf dX10_scan_97 fX10_20 rfl rfl (Eq.refl 100) ?_
    refine Tr.callVs (m_byteAt E ad r i len fr p hd vl T p hl hT (by omega)) dX10_scan_100 (kX10_23 (Nat.le_of_ble_eq_true rfl)) iX10_byteAt rfl rfl rfl rfl rfl (ms_le) rfl rfl (Eq.refl 103) ?_
    rw [hb]
    refine Tr.callSr (L := []) (m_isSmall E _ 0 (by decide)) dX10_scan_103 (kX10_30 (Nat.le_of_ble_eq_true rfl)) sX10_isSmall rfl rfl rfl rfl rfl rfl rfl (Eq.refl 106) ?_
    refine Tr.if_eqB (tgt := 122) dX10_scan_106 (by decide) (Eq.refl 109) (fun h106 => ?_) (fun h106 => ?_)
    · exact Tr.eqs rfl rfl rfl hk2
    · exact absurd h106 (by decide)
  | succ n ih =>
    intro p hp hk
    have hb : bAt T len p = T p := if_pos (by omega)
    have hu : runF isSm T (n + 1) p = if isSm (T p) then runF isSm T n (p + 1) else p := rfl
    rw [hu] at hk
    clear hu
    refine Tr.aload_n (i := 0) dX10_scan_95 rfl rfl (Eq.refl 96) ?_
    refine Tr.aload_n (i := 0) dX10_scan_96 rfl rfl (Eq.refl 97) ?_
    refine Tr.getf dX10_scan_97 fX10_20 rfl rfl (Eq.refl 100) ?_
    refine Tr.callVs (m_byteAt E ad r i len fr p hd vl T p hl hT (by omega)) dX10_scan_100 (kX10_23 (Nat.le_of_ble_eq_true rfl)) iX10_byteAt rfl rfl rfl rfl rfl (ms_le) rfl rfl (Eq.refl 103) ?_
    rw [hb]
    refine Tr.callSr (L := []) (m_isSmall E _ (T p) (hT p (by omega))) dX10_scan_103 (kX10_30 (Nat.le_of_ble_eq_true rfl)) sX10_isSmall rfl rfl rfl rfl rfl rfl rfl (Eq.refl 106) ?_
    refine Tr.if_eqB (tgt := 122) dX10_scan_106 (by decide) (Eq.refl 109) (fun h106 => ?_) (fun h106 => ?_)
    · rw [if_neg (by rw [h106]; decide)] at hk
      exact Tr.eqs rfl rfl rfl (hk p rfl)
    · rw [if_pos h106] at hk
      refine Tr.aload_n (i := 0) dX10_scan_109 rfl rfl (Eq.refl 110) ?_
      refine Tr.dup dX10_scan_110 rfl (Eq.refl 111) ?_
      refine Tr.getf dX10_scan_111 fX10_20 rfl rfl (Eq.refl 114) ?_
      refine Tr.iconst (v := nI 1) dX10_scan_114 (icN 1) (Eq.refl 115) ?_
      refine Tr.iaddN dX10_scan_115 (Eq.refl 116) ?_
      refine Tr.putf dX10_scan_116 pX10_20 rfl (rfl) (rfl) rfl (Eq.refl 119) ?_
      refine Tr.goto (pc' := 95) dX10_scan_119 (by decide) ?_
      exact Tr.eqs rfl rfl rfl (ih (p + 1) (by omega) hk)
theorem vl_e {v n : Nat} (h1 : isDg n = true) : nI (10 * v + n) - nI 48 = nI (10 * v + (n - 48)) := by
  have h2 : 48 ≤ n := of_decide_eq_true (Bool.and_eq_true_iff.mp h1).1
  rw [pk_sub (by omega)]
  congr 1
  omega
set_option maxHeartbeats 4000000 in
set_option maxRecDepth 100000 in
theorem m_scan_dg (E : EnvT) (ad r : Nat → Nat) (i : Nat → Int32) (len fr hd : Nat) (T : Nat → Nat) (w' : List va_E) (c : Option Value) (hl : len ≤ 900) (hT : ∀ k, k < 900 → T k < 256) : ∀ (n p : Nat), p + n = len → fr ≤ p → (∀ p', p' = runF isDg T n p → Tr (E, mX10_scan, ad, none, w') 0 0 223 [some (.ref (ad 0)), c] [] (msC E ad r i len fr p' hd (vlF T fr (p' - fr)) T)) → Tr (E, mX10_scan, ad, none, w') 0 0 160 [some (.ref (ad 0)), c] [] (msC E ad r i len fr p hd (vlF T fr (p - fr)) T) := by
  intro n
  induction n with
  | zero =>
    intro p hp hfr hk
    have hb : bAt T len p = 0 := if_neg (by omega)
    have hk2 := hk p rfl
    generalize vlF T fr (p - fr) = vl at *
    refine Tr.aload_n (i := 0) dX10_scan_160 rfl rfl (Eq.refl 161) ?_
    refine Tr.aload_n (i := 0) dX10_scan_161 rfl rfl (Eq.refl 162) ?_
    refine Tr.getf dX10_scan_162 fX10_20 rfl rfl (Eq.refl 165) ?_
    refine Tr.callVs (m_byteAt E ad r i len fr p hd vl T p hl hT (by omega)) dX10_scan_165 (kX10_23 (Nat.le_of_ble_eq_true rfl)) iX10_byteAt rfl rfl rfl rfl rfl (ms_le) rfl rfl (Eq.refl 168) ?_
    rw [hb]
    refine Tr.callSr (L := []) (m_isDigit E _ 0 (by decide)) dX10_scan_168 (kX10_34 (Nat.le_of_ble_eq_true rfl)) sX10_isDigit rfl rfl rfl rfl rfl rfl rfl (Eq.refl 171) ?_
    refine Tr.if_eqB (tgt := 223) dX10_scan_171 (by decide) (Eq.refl 174) (fun h171 => ?_) (fun h171 => ?_)
    · exact Tr.eqs rfl rfl rfl hk2
    · exact absurd h171 (by decide)
  | succ n ih =>
    intro p hp hfr hk
    have hb : bAt T len p = T p := if_pos (by omega)
    have hu : runF isDg T (n + 1) p = if isDg (T p) then runF isDg T n (p + 1) else p := rfl
    rw [hu] at hk
    clear hu
    have hk9 : isDg (T p) = true → Tr (E, mX10_scan, ad, none, w') 0 0 160 [some (.ref (ad 0)), c] [] (msC E ad r i len fr (p + 1) hd (vlF T fr (p + 1 - fr)) T) := fun h => by
      rw [if_pos h] at hk
      exact ih (p + 1) (by omega) (by omega) hk
    have hv9 : vlF T fr (p + 1 - fr) = if p - fr < 3 then 10 * vlF T fr (p - fr) + (T p - 48) else vlF T fr (p - fr) := by
      rw [show p + 1 - fr = (p - fr) + 1 by omega]
      show (if p - fr < 3 then 10 * vlF T fr (p - fr) + (T (fr + (p - fr)) - 48) else vlF T fr (p - fr)) = _
      rw [show fr + (p - fr) = p by omega]
    rw [hv9] at hk9
    have hk0 : isDg (T p) = false → Tr (E, mX10_scan, ad, none, w') 0 0 223 [some (.ref (ad 0)), c] [] (msC E ad r i len fr p hd (vlF T fr (p - fr)) T) := fun h => by
      rw [if_neg (by rw [h]; decide)] at hk
      exact hk p rfl
    clear hk hv9
    generalize vlF T fr (p - fr) = vl at *
    refine Tr.aload_n (i := 0) dX10_scan_160 rfl rfl (Eq.refl 161) ?_
    refine Tr.aload_n (i := 0) dX10_scan_161 rfl rfl (Eq.refl 162) ?_
    refine Tr.getf dX10_scan_162 fX10_20 rfl rfl (Eq.refl 165) ?_
    refine Tr.callVs (m_byteAt E ad r i len fr p hd vl T p hl hT (by omega)) dX10_scan_165 (kX10_23 (Nat.le_of_ble_eq_true rfl)) iX10_byteAt rfl rfl rfl rfl rfl (ms_le) rfl rfl (Eq.refl 168) ?_
    rw [hb]
    refine Tr.callSr (L := []) (m_isDigit E _ (T p) (hT p (by omega))) dX10_scan_168 (kX10_34 (Nat.le_of_ble_eq_true rfl)) sX10_isDigit rfl rfl rfl rfl rfl rfl rfl (Eq.refl 171) ?_
    refine Tr.if_eqB (tgt := 223) dX10_scan_171 (by decide) (Eq.refl 174) (fun h171 => ?_) (fun h171 => ?_)
    · have hk1 := hk0 h171
      exact Tr.eqs rfl rfl rfl hk1
    · have hk9 := hk9 h171
      refine Tr.aload_n (i := 0) dX10_scan_174 rfl rfl (Eq.refl 175) ?_
      refine Tr.getf dX10_scan_175 fX10_20 rfl rfl (Eq.refl 178) ?_
      refine Tr.aload_n (i := 0) dX10_scan_178 rfl rfl (Eq.refl 179) ?_
      refine Tr.getf dX10_scan_179 fX10_7 rfl rfl (Eq.refl 182) ?_
      refine Tr.isub dX10_scan_182 (Eq.refl 183) ?_
      rw [pk_sub hfr]
      refine Tr.iconst (v := nI 3) dX10_scan_183 (icN 3) (Eq.refl 184) ?_
      refine Tr.icmp_geN (tgt := 210) dX10_scan_184 (by decide) (Eq.refl 187) (by omega) (by omega) (fun h184 => ?_) (fun h184 => ?_)
      · rw [if_neg (by omega)] at hk9
        skip
        refine Tr.aload_n (i := 0) dX10_scan_210 rfl rfl (Eq.refl 211) ?_
        refine Tr.dup dX10_scan_211 rfl (Eq.refl 212) ?_
        refine Tr.getf dX10_scan_212 fX10_20 rfl rfl (Eq.refl 215) ?_
        refine Tr.iconst (v := nI 1) dX10_scan_215 (icN 1) (Eq.refl 216) ?_
        refine Tr.iaddN dX10_scan_216 (Eq.refl 217) ?_
        refine Tr.putf dX10_scan_217 pX10_20 rfl (rfl) (rfl) rfl (Eq.refl 220) ?_
        refine Tr.goto (pc' := 160) dX10_scan_220 (by decide) ?_
        exact Tr.eqs rfl rfl rfl hk9
      · rw [if_pos (by omega)] at hk9
        refine Tr.aload_n (i := 0) dX10_scan_187 rfl rfl (Eq.refl 188) ?_
        refine Tr.bipush (v := nI 10) dX10_scan_188 (by decide +kernel) (Eq.refl 190) ?_
        refine Tr.aload_n (i := 0) dX10_scan_190 rfl rfl (Eq.refl 191) ?_
        refine Tr.getf dX10_scan_191 fX10_37 rfl rfl (Eq.refl 194) ?_
        refine Tr.imulN dX10_scan_194 (Eq.refl 195) ?_
        refine Tr.aload_n (i := 0) dX10_scan_195 rfl rfl (Eq.refl 196) ?_
        refine Tr.aload_n (i := 0) dX10_scan_196 rfl rfl (Eq.refl 197) ?_
        refine Tr.getf dX10_scan_197 fX10_20 rfl rfl (Eq.refl 200) ?_
        refine Tr.callVs (m_byteAt E ad r i len fr p hd vl T p hl hT (by omega)) dX10_scan_200 (kX10_23 (Nat.le_of_ble_eq_true rfl)) iX10_byteAt rfl rfl rfl rfl rfl (ms_le) rfl rfl (Eq.refl 203) ?_
        rw [hb]
        refine Tr.iaddN dX10_scan_203 (Eq.refl 204) ?_
        refine Tr.bipush (v := nI 48) dX10_scan_204 (by decide +kernel) (Eq.refl 206) ?_
        refine Tr.isub dX10_scan_206 (Eq.refl 207) ?_
        rw [vl_e h171]
        refine Tr.putf dX10_scan_207 pX10_37 rfl (rfl) (rfl) rfl (Eq.refl 210) ?_
        skip
        refine Tr.aload_n (i := 0) dX10_scan_210 rfl rfl (Eq.refl 211) ?_
        refine Tr.dup dX10_scan_211 rfl (Eq.refl 212) ?_
        refine Tr.getf dX10_scan_212 fX10_20 rfl rfl (Eq.refl 215) ?_
        refine Tr.iconst (v := nI 1) dX10_scan_215 (icN 1) (Eq.refl 216) ?_
        refine Tr.iaddN dX10_scan_216 (Eq.refl 217) ?_
        refine Tr.putf dX10_scan_217 pX10_20 rfl (rfl) (rfl) rfl (Eq.refl 220) ?_
        refine Tr.goto (pc' := 160) dX10_scan_220 (by decide) ?_
        exact Tr.eqs rfl rfl rfl hk9
set_option maxHeartbeats 4000000 in
set_option maxRecDepth 100000 in
theorem m_scan (E : EnvT) (ad r : Nat → Nat) (i : Nat → Int32) (len fr p hd vl : Nat) (T : Nat → Nat) (hl : len ≤ 900) (hT : ∀ k, k < 900 → T k < 256) (hp : p ≤ len) : Md E mX10_scan ad [.ref (ad 0)] (msC E ad r i len fr p hd vl T) none (msC E ad r i len (tkS T len p) (tkE T len p) (tkH T len p) (tkV T len p vl) T) := by
  have hs := tkS_le T hp
  have he := tkE_le T hp
  refine Md.of 1 (by decide) rfl rfl ?_
  show Tr _ 0 0 0 [some (.ref (ad 0)), none] [] _
  refine m_scan_bl E ad r i len fr hd vl T _ hl hT (len - p) p (by omega) (fun s hse => ?_)
  have hse : s = tkS T len p := hse
  have eE : tkE T len p = if s < len then (if isSm (T s) then runF isSm T (len - s) s else if isDg (T s) then runF isDg T (len - s) s else s + 1) else s := by rw [hse]; rfl
  have eK : tkK T len p = if s < len then (if isSm (T s) then (if 8 < tkE T len p - s then 5 else 1) else if isDg (T s) then (if 3 < tkE T len p - s then 5 else 2) else if T s = 59 then 3 else 5) else 0 := by rw [hse]; rfl
  have eV : tkV T len p vl = if s < len ∧ isSm (T s) = false ∧ isDg (T s) = true then vlF T s (tkE T len p - s) else vl := by rw [hse]; rfl
  have eH : tkH T len p = if tkK T len p = 5 then 4 else tkK T len p := rfl
  rw [← hse] at hs he ⊢
  clear hse
  generalize tkE T len p = e at *
  generalize tkK T len p = k at *
  generalize tkV T len p vl = v at *
  generalize tkH T len p = hd2 at *
  refine Tr.aload_n (i := 0) dX10_scan_52 rfl rfl (Eq.refl 53) ?_
  refine Tr.aload_n (i := 0) dX10_scan_53 rfl rfl (Eq.refl 54) ?_
  refine Tr.getf dX10_scan_54 fX10_20 rfl rfl (Eq.refl 57) ?_
  refine Tr.putf dX10_scan_57 pX10_7 rfl (rfl) (rfl) rfl (Eq.refl 60) ?_
  refine Tr.pic (w' := (msC E ad r i len s s hd vl T)) rfl ?_
  refine Tr.aload_n (i := 0) dX10_scan_60 rfl rfl (Eq.refl 61) ?_
  refine Tr.aload_n (i := 0) dX10_scan_61 rfl rfl (Eq.refl 62) ?_
  refine Tr.getf dX10_scan_62 fX10_7 rfl rfl (Eq.refl 65) ?_
  refine Tr.callVs (m_byteAt E ad r i len s s hd vl T s hl hT (by omega)) dX10_scan_65 (kX10_23 (Nat.le_of_ble_eq_true rfl)) iX10_byteAt rfl rfl rfl rfl rfl (ms_le) rfl rfl (Eq.refl 68) ?_
  refine Tr.istore_n (i := 1) dX10_scan_68 rfl rfl rfl (Eq.refl 69) ?_
  refine Tr.aload_n (i := 0) dX10_scan_69 rfl rfl (Eq.refl 70) ?_
  refine Tr.getf dX10_scan_70 fX10_7 rfl rfl (Eq.refl 73) ?_
  refine Tr.aload_n (i := 0) dX10_scan_73 rfl rfl (Eq.refl 74) ?_
  refine Tr.getf dX10_scan_74 fX10_13 rfl rfl (Eq.refl 77) ?_
  refine Tr.icmp_neN (tgt := 88) dX10_scan_77 (by decide) (Eq.refl 80) (by omega) (by omega) (fun h77 => ?_) (fun h77 => ?_)
  · have hb : bAt T len s = T s := if_pos (by omega)
    have hTs := hT s (by omega)
    rw [hb]
    rw [if_pos (by omega)] at eE eK
    refine Tr.iload_n (i := 1) dX10_scan_88 rfl rfl (Eq.refl 89) ?_
    refine Tr.callSr (L := []) (m_isSmall E _ (T s) hTs) dX10_scan_89 (kX10_30 (Nat.le_of_ble_eq_true rfl)) sX10_isSmall rfl rfl rfl rfl rfl rfl rfl (Eq.refl 92) ?_
    refine Tr.if_eqB (tgt := 148) dX10_scan_92 (by decide) (Eq.refl 95) (fun h92 => ?_) (fun h92 => ?_)
    · rw [if_neg (by rw [h92]; decide)] at eE eK
      refine Tr.iload_n (i := 1) dX10_scan_148 rfl rfl (Eq.refl 149) ?_
      refine Tr.callSr (L := []) (m_isDigit E _ (T s) hTs) dX10_scan_149 (kX10_34 (Nat.le_of_ble_eq_true rfl)) sX10_isDigit rfl rfl rfl rfl rfl rfl rfl (Eq.refl 152) ?_
      refine Tr.if_eqB (tgt := 248) dX10_scan_152 (by decide) (Eq.refl 155) (fun h152 => ?_) (fun h152 => ?_)
      · rw [if_neg (by rw [h152]; decide)] at eE eK
        rw [if_neg (by rw [h152]; simp)] at eV
        refine Tr.aload_n (i := 0) dX10_scan_248 rfl rfl (Eq.refl 249) ?_
        refine Tr.iload_n (i := 1) dX10_scan_249 rfl rfl (Eq.refl 250) ?_
        refine Tr.bipush (v := nI 59) dX10_scan_250 (by decide +kernel) (Eq.refl 252) ?_
        refine Tr.icmp_neN (tgt := 259) dX10_scan_252 (by decide) (Eq.refl 255) (by omega) (by omega) (fun h252 => ?_) (fun h252 => ?_)
        · rw [if_neg h252] at eK
          refine Tr.iconst (v := nI 4) dX10_scan_259 (icN 4) (Eq.refl 260) ?_
          refine Tr.putf dX10_scan_260 pX10_27 rfl (rfl) (rfl) rfl (Eq.refl 263) ?_
          refine Tr.aload_n (i := 0) dX10_scan_263 rfl rfl (Eq.refl 264) ?_
          refine Tr.dup dX10_scan_264 rfl (Eq.refl 265) ?_
          refine Tr.getf dX10_scan_265 fX10_20 rfl rfl (Eq.refl 268) ?_
          refine Tr.iconst (v := nI 1) dX10_scan_268 (icN 1) (Eq.refl 269) ?_
          refine Tr.iaddN dX10_scan_269 (Eq.refl 270) ?_
          refine Tr.putf dX10_scan_270 pX10_20 rfl (rfl) (rfl) rfl (Eq.refl 273) ?_
          refine Tr.ret dX10_scan_273 rfl rfl ?_
          · rw [eH, eK, eV, eE]; rfl
        · rw [if_pos h252] at eK
          refine Tr.iconst (v := nI 3) dX10_scan_255 (icN 3) (Eq.refl 256) ?_
          refine Tr.goto (pc' := 260) dX10_scan_256 (by decide) ?_
          refine Tr.putf dX10_scan_260 pX10_27 rfl (rfl) (rfl) rfl (Eq.refl 263) ?_
          refine Tr.aload_n (i := 0) dX10_scan_263 rfl rfl (Eq.refl 264) ?_
          refine Tr.dup dX10_scan_264 rfl (Eq.refl 265) ?_
          refine Tr.getf dX10_scan_265 fX10_20 rfl rfl (Eq.refl 268) ?_
          refine Tr.iconst (v := nI 1) dX10_scan_268 (icN 1) (Eq.refl 269) ?_
          refine Tr.iaddN dX10_scan_269 (Eq.refl 270) ?_
          refine Tr.putf dX10_scan_270 pX10_20 rfl (rfl) (rfl) rfl (Eq.refl 273) ?_
          refine Tr.ret dX10_scan_273 rfl rfl ?_
          · rw [eH, eK, eV, eE]; rfl
      · rw [if_pos h152] at eE eK
        rw [if_pos ⟨by omega, h92, h152⟩] at eV
        refine Tr.aload_n (i := 0) dX10_scan_155 rfl rfl (Eq.refl 156) ?_
        refine Tr.iconst (v := nI 0) dX10_scan_156 (icN 0) (Eq.refl 157) ?_
        refine Tr.putf dX10_scan_157 pX10_37 rfl (rfl) (rfl) rfl (Eq.refl 160) ?_
        refine Tr.pic (w' := (msC E ad r i len s s hd (vlF T s (s - s)) T)) (by rw [Nat.sub_self]; rfl) ?_
        refine m_scan_dg E ad r i len s hd T _ _ hl hT (len - s) s (by omega) (Nat.le_refl s) (fun p2 p2e => ?_)
        rw [← eE] at p2e
        subst p2e
        refine Tr.aload_n (i := 0) dX10_scan_223 rfl rfl (Eq.refl 224) ?_
        refine Tr.aload_n (i := 0) dX10_scan_224 rfl rfl (Eq.refl 225) ?_
        refine Tr.getf dX10_scan_225 fX10_20 rfl rfl (Eq.refl 228) ?_
        refine Tr.aload_n (i := 0) dX10_scan_228 rfl rfl (Eq.refl 229) ?_
        refine Tr.getf dX10_scan_229 fX10_7 rfl rfl (Eq.refl 232) ?_
        refine Tr.isub dX10_scan_232 (Eq.refl 233) ?_
        rw [pk_sub (by omega)]
        refine Tr.iconst (v := nI 3) dX10_scan_233 (icN 3) (Eq.refl 234) ?_
        refine Tr.icmp_leN (tgt := 241) dX10_scan_234 (by decide) (Eq.refl 237) (by omega) (by omega) (fun h234 => ?_) (fun h234 => ?_)
        · rw [if_neg (by omega)] at eK
          refine Tr.iconst (v := nI 2) dX10_scan_241 (icN 2) (Eq.refl 242) ?_
          refine Tr.putf dX10_scan_242 pX10_27 rfl (rfl) (rfl) rfl (Eq.refl 245) ?_
          refine Tr.goto (pc' := 273) dX10_scan_245 (by decide) ?_
          refine Tr.ret dX10_scan_273 rfl rfl ?_
          · rw [eH, eK, eV]; rfl
        · rw [if_pos (by omega)] at eK
          refine Tr.iconst (v := nI 4) dX10_scan_237 (icN 4) (Eq.refl 238) ?_
          refine Tr.goto (pc' := 242) dX10_scan_238 (by decide) ?_
          refine Tr.putf dX10_scan_242 pX10_27 rfl (rfl) (rfl) rfl (Eq.refl 245) ?_
          refine Tr.goto (pc' := 273) dX10_scan_245 (by decide) ?_
          refine Tr.ret dX10_scan_273 rfl rfl ?_
          · rw [eH, eK, eV]; rfl
    · rw [if_pos h92] at eE eK
      rw [if_neg (by rw [h92]; simp)] at eV
      refine m_scan_sm E ad r i len s hd vl T _ _ hl hT (len - s) s (by omega) (fun p2 p2e => ?_)
      rw [← eE] at p2e
      subst p2e
      refine Tr.aload_n (i := 0) dX10_scan_122 rfl rfl (Eq.refl 123) ?_
      refine Tr.aload_n (i := 0) dX10_scan_123 rfl rfl (Eq.refl 124) ?_
      refine Tr.getf dX10_scan_124 fX10_20 rfl rfl (Eq.refl 127) ?_
      refine Tr.aload_n (i := 0) dX10_scan_127 rfl rfl (Eq.refl 128) ?_
      refine Tr.getf dX10_scan_128 fX10_7 rfl rfl (Eq.refl 131) ?_
      refine Tr.isub dX10_scan_131 (Eq.refl 132) ?_
      rw [pk_sub (by omega)]
      refine Tr.bipush (v := nI 8) dX10_scan_132 (by decide +kernel) (Eq.refl 134) ?_
      refine Tr.icmp_leN (tgt := 141) dX10_scan_134 (by decide) (Eq.refl 137) (by omega) (by omega) (fun h134 => ?_) (fun h134 => ?_)
      · rw [if_neg (by omega)] at eK
        refine Tr.iconst (v := nI 1) dX10_scan_141 (icN 1) (Eq.refl 142) ?_
        refine Tr.putf dX10_scan_142 pX10_27 rfl (rfl) (rfl) rfl (Eq.refl 145) ?_
        refine Tr.goto (pc' := 273) dX10_scan_145 (by decide) ?_
        refine Tr.ret dX10_scan_273 rfl rfl ?_
        · rw [eH, eK, eV]; rfl
      · rw [if_pos (by omega)] at eK
        refine Tr.iconst (v := nI 4) dX10_scan_137 (icN 4) (Eq.refl 138) ?_
        refine Tr.goto (pc' := 142) dX10_scan_138 (by decide) ?_
        refine Tr.putf dX10_scan_142 pX10_27 rfl (rfl) (rfl) rfl (Eq.refl 145) ?_
        refine Tr.goto (pc' := 273) dX10_scan_145 (by decide) ?_
        refine Tr.ret dX10_scan_273 rfl rfl ?_
        · rw [eH, eK, eV]; rfl
  · rw [if_neg (by omega)] at eE eK
    rw [if_neg (by omega)] at eV
    refine Tr.aload_n (i := 0) dX10_scan_80 rfl rfl (Eq.refl 81) ?_
    refine Tr.iconst (v := nI 0) dX10_scan_81 (icN 0) (Eq.refl 82) ?_
    refine Tr.putf dX10_scan_82 pX10_27 rfl (rfl) (rfl) rfl (Eq.refl 85) ?_
    refine Tr.goto (pc' := 273) dX10_scan_85 (by decide) ?_
    refine Tr.ret dX10_scan_273 rfl rfl ?_
    · rw [eH, eK, eV, eE]; rfl
