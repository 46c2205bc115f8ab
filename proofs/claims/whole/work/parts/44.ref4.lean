/-! THE REFERENCE: what is best, days, laws -/
theorem in32' {lo hi : Int64} {a b : Int32} (x : Int32) (h1 : a.toInt64 = lo) (h2 : b.toInt64 = hi) : inL x.toInt64 lo hi = rgB x a b := by rw [← h1, ← h2]; exact in32 x a b
theorem rgB_n {x : Int32} {a b : Nat} (hb : b < 2 ^ 31) (ha : a ≤ b) (h : rgB x (nI a) (nI b) = true) : ∃ k, a ≤ k ∧ k ≤ b ∧ x = nI k := by
  unfold rgB at h
  have h1 : ¬ x < nI a ∧ ¬ nI b < x := by simpa using h
  obtain ⟨h2, h3⟩ := h1
  rw [Int32.lt_iff_toInt_lt, nI_toInt (by omega)] at h2
  rw [Int32.lt_iff_toInt_lt, nI_toInt (by omega)] at h3
  refine ⟨x.toInt.toNat, by omega, by omega, Int32.toInt_inj.mp ?_⟩
  rw [nI_toInt (by omega)]
  omega
/-- what a trial leaves behind: worth, last, gain, loss, wishes, leaves, row, best plan, gains -/
abbrev Jk : Type := Int32 × Bool × Int32 × Int32 × (Nat → Nat) × (Nat → Int32) × (Nat → Int32) × (Nat → Nat) × (Nat → Int32)
def mtJ (E : EnvT) (ad r : Nat → Nat) (i : Nat → Int32) (V : Vil) (J : Jk) (g : Nat → Int32) : List va_E := mtC E ad r i V (-1, -1, J.1, -1, false, J.2.1) J.2.2.1 J.2.2.2.1 J.2.2.2.2.1 J.2.2.2.2.2.1 J.2.2.2.2.2.2.1 g J.2.2.2.2.2.2.2.1 J.2.2.2.2.2.2.2.2
/-- a number in an int -/
def nN (x : Int32) : Nat := x.toNatClampNeg
theorem nN_n {n : Nat} (h : n < 2 ^ 31) : nN (nI n) = n := nI_clamp h
theorem bnt {b : Bool} (h : ¬ b = true) : b = false := by cases b; rfl; exact absurd rfl h
set_option maxHeartbeats 4000000 in
set_option maxRecDepth 100000 in
theorem m_sum (E : EnvT) (ad r : Nat → Nat) (i : Nat → Int32) (V : Vil) (w : Int32) (l : Bool) (lg ll : Int32) (W : Nat → Nat) (B f : Nat → Int32) (bp : Nat → Nat) (G : Nat → Int32) (S : Scn) (P : Nat → Nat) (L : Nat → Int32) (a : Nat) (x : Int32) (hV : Vok V) (hS : Sle V S) (hP : Pok V P) (ht : psS S < 2 ^ 29) : Md E mX10_sum ad [.ref (ad 0), .int x] (mtJ E ad r i V (w, l, lg, ll, W, B, f, bp, G) (rwF S P L a)) (some (.int (if ixB x (npV V) then smR V (-1, -1, w, -1, false, l) P L (S, W, B) (nN x) else -1000000))) (mtJ E ad r i V (if ixB x (npV V) then (w, l, lg, ll, (mgF V (-1, -1, w, -1, false, l) P L (S, W, B) 4).2.1, (mgF V (-1, -1, w, -1, false, l) P L (S, W, B) 4).2.2, (rwF (mgF V (-1, -1, w, -1, false, l) P L (S, W, B) 4).1 P L a), bp, G) else (w, l, lg, ll, W, B, f, bp, G)) (rwF S P L a)) := by
  have v2 := hV.2.1
  by_cases hc : ixB x (npV V) = true
  · rw [if_pos hc, if_pos hc]
    obtain ⟨p, hp, rfl⟩ := ixB_n v2 hc
    rw [nN_n (by omega)]
    show Md E _ ad _ (mtC E ad r i V (-1, -1, w, -1, false, l) lg ll W B f (rwF S P L a) bp G) _ (mtC E ad r i V (-1, -1, w, -1, false, l) lg ll (mgF V (-1, -1, w, -1, false, l) P L (S, W, B) 4).2.1 (mgF V (-1, -1, w, -1, false, l) P L (S, W, B) 4).2.2 (rwF (mgF V (-1, -1, w, -1, false, l) P L (S, W, B) 4).1 P L a) (rwF S P L a) bp G)
    refine Md.of 0 (by decide) rfl rfl ?_
    refine Tr.aload_n (i := 0) dX10_sum_0 rfl rfl (Eq.refl 1) ?_
    refine Tr.iload_n (i := 1) dX10_sum_1 rfl rfl (Eq.refl 2) ?_
    refine Tr.callVr (L := [0]) (m_isPerson E _ (rP ad r) (iP V (-1, -1, w, -1, false, l) lg ll i) (nhV V) (npV V) (nI p) v2) dX10_sum_2 (kX10_309 (Nat.le_of_ble_eq_true rfl)) iX10_isPerson rfl rfl rfl rfl rfl rfl rfl rfl rfl (Eq.refl 5) ?_
    refine Tr.if_eqB (tgt := 16) dX10_sum_5 (by decide) (Eq.refl 8) (fun h5 => ?_) (fun h5 => ?_)
    · exact absurd (hc.symm.trans h5) (by decide)
    · refine Tr.aload_n (i := 0) dX10_sum_8 rfl rfl (Eq.refl 9) ?_
      refine Tr.iload_n (i := 1) dX10_sum_9 rfl rfl (Eq.refl 10) ?_
      refine Tr.callVs (m_sumNow E ad r i V (-1, -1, w, -1, false, l) lg ll W B f f bp G S P L a p hV hS hP ht hp) dX10_sum_10 (kX10_408 (Nat.le_of_ble_eq_true rfl)) iX10_sumNow rfl rfl rfl rfl rfl (mt_le) rfl rfl (Eq.refl 13) ?_
      refine Tr.goto (pc' := 19) dX10_sum_13 (by decide) ?_
      refine Tr.iret dX10_sum_19 rfl (by first | rfl | exact bI_nar _) ?_ ?_
      · rfl
      · rfl
  · rw [if_neg hc, if_neg hc]
    show Md E _ ad _ (mtC E ad r i V (-1, -1, w, -1, false, l) lg ll W B f (rwF S P L a) bp G) _ (mtC E ad r i V (-1, -1, w, -1, false, l) lg ll W B f (rwF S P L a) bp G)
    refine Md.of 0 (by decide) rfl rfl ?_
    refine Tr.aload_n (i := 0) dX10_sum_0 rfl rfl (Eq.refl 1) ?_
    refine Tr.iload_n (i := 1) dX10_sum_1 rfl rfl (Eq.refl 2) ?_
    refine Tr.callVr (L := [0]) (m_isPerson E _ (rP ad r) (iP V (-1, -1, w, -1, false, l) lg ll i) (nhV V) (npV V) x v2) dX10_sum_2 (kX10_309 (Nat.le_of_ble_eq_true rfl)) iX10_isPerson rfl rfl rfl rfl rfl rfl rfl rfl rfl (Eq.refl 5) ?_
    refine Tr.if_eqB (tgt := 16) dX10_sum_5 (by decide) (Eq.refl 8) (fun h5 => ?_) (fun h5 => ?_)
    · refine Tr.ldcw dX10_sum_16 qX10_395 (Eq.refl 19) ?_
      refine Tr.iret dX10_sum_19 rfl (by first | rfl | exact bI_nar _) ?_ ?_
      · rfl
      · rfl
    · exact absurd h5 hc
theorem plR_le {nh c : Nat} (h : nh ≤ 5) (hc : c ≤ nh) : plR nh c ≤ 5 := by
  unfold plR
  split <;> omega
theorem pbR_le {V : Vil} (h : nhV V ≤ 5) (x : Nat) (bp : Nat → Nat) {k : Nat} (hk : k < 4) : pbR V x bp k ≤ 5 := by
  have hm : ∀ l, plR (nhV V) (l % (nhV V + 1)) ≤ 5 := fun l => plR_le h (Nat.lt_succ_iff.mp (Nat.mod_lt l (by omega)))
  unfold pbR
  rcases (show k = 0 ∨ k = 1 ∨ k = 2 ∨ k = 3 by omega) with rfl | rfl | rfl | rfl
  · exact hm _
  · exact hm _
  · exact hm _
  · exact hm _
set_option maxHeartbeats 4000000 in
set_option maxRecDepth 100000 in
theorem m_best (E : EnvT) (ad r : Nat → Nat) (i : Nat → Int32) (V : Vil) (w : Int32) (l : Bool) (lg ll : Int32) (W : Nat → Nat) (B f : Nat → Int32) (bp : Nat → Nat) (G : Nat → Int32) (S : Scn) (P : Nat → Nat) (L : Nat → Int32) (a : Nat) (x y : Int32) (hV : Vok V) (hS : Sle V S) (hP : Pok V P) (ht : psS S < 2 ^ 29) : Md E mX10_best ad [.ref (ad 0), .int x, .int y] (mtJ E ad r i V (w, l, lg, ll, W, B, f, bp, G) (rwF S P L a)) (some (.int (if (ixB x (npV V) && rgB y (nI 0) (nI 4)) then (if y = nI 4 then (fmR V (-1, -1, w, -1, false, l) S P L a (nN x) W B f).1 else cl (pbR V (fmR V (-1, -1, w, -1, false, l) S P L a (nN x) W B f).2.1 bp (nN y))) else -1000000))) (mtJ E ad r i V (if (ixB x (npV V) && rgB y (nI 0) (nI 4)) then (w, l, lg, ll, (fmR V (-1, -1, w, -1, false, l) S P L a (nN x) W B f).2.2.1, (fmR V (-1, -1, w, -1, false, l) S P L a (nN x) W B f).2.2.2.1, (fmR V (-1, -1, w, -1, false, l) S P L a (nN x) W B f).2.2.2.2, pbR V (fmR V (-1, -1, w, -1, false, l) S P L a (nN x) W B f).2.1 bp, G) else (w, l, lg, ll, W, B, f, bp, G)) (rwF S P L a)) := by
  have v1 := hV.1
  have v2 := hV.2.1
  by_cases hc : (ixB x (npV V) && rgB y (nI 0) (nI 4)) = true
  · rw [if_pos hc, if_pos hc]
    have hc1 : ixB x (npV V) = true := by simpa using (Bool.and_eq_true_iff.mp hc).1
    have hc2 : rgB y (nI 0) (nI 4) = true := (Bool.and_eq_true_iff.mp hc).2
    obtain ⟨p, hp, rfl⟩ := ixB_n v2 hc1
    obtain ⟨k, -, hk, rfl⟩ := rgB_n (by decide) (by decide) hc2
    rw [nN_n (show p < 2 ^ 31 by omega), nN_n (show k < 2 ^ 31 by omega)]
    show Md E _ ad _ (mtC E ad r i V (-1, -1, w, -1, false, l) lg ll W B f (rwF S P L a) bp G) _ (mtC E ad r i V (-1, -1, w, -1, false, l) lg ll (fmR V (-1, -1, w, -1, false, l) S P L a p W B f).2.2.1 (fmR V (-1, -1, w, -1, false, l) S P L a p W B f).2.2.2.1 (fmR V (-1, -1, w, -1, false, l) S P L a p W B f).2.2.2.2 (rwF S P L a) (pbR V (fmR V (-1, -1, w, -1, false, l) S P L a p W B f).2.1 bp) G)
    refine Md.of 1 (by decide) rfl rfl ?_
    refine Tr.aload_n (i := 0) dX10_best_0 rfl rfl (Eq.refl 1) ?_
    refine Tr.iload_n (i := 1) dX10_best_1 rfl rfl (Eq.refl 2) ?_
    refine Tr.callVr (L := [0]) (m_isPerson E _ (rP ad r) (iP V (-1, -1, w, -1, false, l) lg ll i) (nhV V) (npV V) (nI p) v2) dX10_best_2 (kX10_309 (Nat.le_of_ble_eq_true rfl)) iX10_isPerson rfl rfl rfl rfl rfl rfl rfl rfl rfl (Eq.refl 5) ?_
    refine Tr.if_eqB (tgt := 20) dX10_best_5 (by decide) (Eq.refl 8) (fun h5 => ?_) (fun h5 => ?_)
    · exact absurd (hc1.symm.trans h5) (by decide)
    · refine Tr.iload_n (i := 2) dX10_best_8 rfl rfl (Eq.refl 9) ?_
      refine Tr.i2l dX10_best_9 rfl (Eq.refl 10) ?_
      refine Tr.lconst (v := 0) dX10_best_10 (by decide +kernel) (Eq.refl 11) ?_
      refine Tr.ldc2 dX10_best_11 qX10_414 (Eq.refl 14) ?_
      refine Tr.callSr (L := []) (m_in E _ (nI k).toInt64 0 4) dX10_best_14 (kX10_52 (Nat.le_of_ble_eq_true rfl)) sX10_in rfl rfl rfl rfl rfl rfl rfl (Eq.refl 17) ?_
      rw [in32' (nI k) (a := nI 0) (b := nI 4) (by decide) (by decide)]
      refine Tr.if_neB (tgt := 24) dX10_best_17 (by decide) (Eq.refl 20) (fun h17 => ?_) (fun h17 => ?_)
      · refine Tr.aload_n (i := 0) dX10_best_24 rfl rfl (Eq.refl 25) ?_
        refine Tr.iload_n (i := 1) dX10_best_25 rfl rfl (Eq.refl 26) ?_
        refine Tr.callVs (m_findBest E ad r i V (-1, -1, w, -1, false, l) lg ll W B f f bp G S P L a p hV hS hP ht hp) dX10_best_26 (kX10_416 (Nat.le_of_ble_eq_true rfl)) iX10_findBest rfl rfl rfl rfl rfl (mt_le) rfl rfl (Eq.refl 29) ?_
        generalize (fmR V (-1, -1, w, -1, false, l) S P L a p W B f) = q at *
        refine Tr.istore_n (i := 3) dX10_best_29 rfl rfl rfl (Eq.refl 30) ?_
        refine Tr.iload_n (i := 2) dX10_best_30 rfl rfl (Eq.refl 31) ?_
        refine Tr.iconst (v := nI 4) dX10_best_31 (icN 4) (Eq.refl 32) ?_
        refine Tr.icmp_neN (tgt := 39) dX10_best_32 (by decide) (Eq.refl 35) (by omega) (by omega) (fun h32 => ?_) (fun h32 => ?_)
        · rw [if_neg (fun z9 => h32 ((nI_eq_iff (by omega) (by decide)).mp z9))]
          refine Tr.aload_n (i := 0) dX10_best_39 rfl rfl (Eq.refl 40) ?_
          refine Tr.getf dX10_best_40 fX10_249 rfl rfl (Eq.refl 43) ?_
          refine Tr.iload_n (i := 2) dX10_best_43 rfl rfl (Eq.refl 44) ?_
          refine Tr.ialdN dX10_best_44 rfl (by omega) (by decide) (Eq.refl 45) ?_
          refine Tr.callSr (L := []) (m_told0 E _ _ (pbR_le v1 q.2.1 bp (show k < 4 by omega))) dX10_best_45 (kX10_379 (Nat.le_of_ble_eq_true rfl)) sX10_told0 rfl rfl rfl rfl rfl rfl rfl (Eq.refl 48) ?_
          refine Tr.iret dX10_best_48 rfl (by first | rfl | exact bI_nar _) ?_ ?_
          · rfl
          · rfl
        · rw [if_pos (by rw [h32])]
          refine Tr.iload_n (i := 3) dX10_best_35 rfl rfl (Eq.refl 36) ?_
          refine Tr.goto (pc' := 48) dX10_best_36 (by decide) ?_
          refine Tr.iret dX10_best_48 rfl (by first | rfl | exact bI_nar _) ?_ ?_
          · rfl
          · rfl
      · exact absurd (hc2.symm.trans h17) (by decide)
  · rw [if_neg hc, if_neg hc]
    show Md E _ ad _ (mtC E ad r i V (-1, -1, w, -1, false, l) lg ll W B f (rwF S P L a) bp G) _ (mtC E ad r i V (-1, -1, w, -1, false, l) lg ll W B f (rwF S P L a) bp G)
    refine Md.of 1 (by decide) rfl rfl ?_
    refine Tr.aload_n (i := 0) dX10_best_0 rfl rfl (Eq.refl 1) ?_
    refine Tr.iload_n (i := 1) dX10_best_1 rfl rfl (Eq.refl 2) ?_
    refine Tr.callVr (L := [0]) (m_isPerson E _ (rP ad r) (iP V (-1, -1, w, -1, false, l) lg ll i) (nhV V) (npV V) x v2) dX10_best_2 (kX10_309 (Nat.le_of_ble_eq_true rfl)) iX10_isPerson rfl rfl rfl rfl rfl rfl rfl rfl rfl (Eq.refl 5) ?_
    refine Tr.if_eqB (tgt := 20) dX10_best_5 (by decide) (Eq.refl 8) (fun h5 => ?_) (fun h5 => ?_)
    · refine Tr.ldcw dX10_best_20 qX10_395 (Eq.refl 23) ?_
      refine Tr.iret dX10_best_23 rfl (by first | rfl | exact bI_nar _) ?_ ?_
      · rfl
      · rfl
    · refine Tr.iload_n (i := 2) dX10_best_8 rfl rfl (Eq.refl 9) ?_
      refine Tr.i2l dX10_best_9 rfl (Eq.refl 10) ?_
      refine Tr.lconst (v := 0) dX10_best_10 (by decide +kernel) (Eq.refl 11) ?_
      refine Tr.ldc2 dX10_best_11 qX10_414 (Eq.refl 14) ?_
      refine Tr.callSr (L := []) (m_in E _ y.toInt64 0 4) dX10_best_14 (kX10_52 (Nat.le_of_ble_eq_true rfl)) sX10_in rfl rfl rfl rfl rfl rfl rfl (Eq.refl 17) ?_
      rw [in32' y (a := nI 0) (b := nI 4) (by decide) (by decide)]
      refine Tr.if_neB (tgt := 24) dX10_best_17 (by decide) (Eq.refl 20) (fun h17 => ?_) (fun h17 => ?_)
      · exact absurd (by rw [h5, h17]; rfl) hc
      · refine Tr.ldcw dX10_best_20 qX10_395 (Eq.refl 23) ?_
        refine Tr.iret dX10_best_23 rfl (by first | rfl | exact bI_nar _) ?_ ?_
        · rfl
        · rfl
set_option maxHeartbeats 4000000 in
set_option maxRecDepth 100000 in
theorem m_longer (E : EnvT) (ad r : Nat → Nat) (i : Nat → Int32) (V : Vil) (w : Int32) (l : Bool) (lg ll : Int32) (W : Nat → Nat) (B f : Nat → Int32) (bp : Nat → Nat) (G : Nat → Int32) (S : Scn) (P : Nat → Nat) (L : Nat → Int32) (a : Nat) (x y z : Int32) (hV : Vok V) (hS : Sle V S) (hP : Pok V P) (ht : psS S < 2 ^ 29) : Md E mX10_longer ad [.ref (ad 0), .int x, .int y, .int z] (mtJ E ad r i V (w, l, lg, ll, W, B, f, bp, G) (rwF S P L a)) (some (.int (if (ixB x (nhV V) && rgB y (nI 1) (nI 60) && rgB z (nI 0) (nI 1)) then (if z = nI 0 then soS (mgF V (-1, -1, w, -1, false, l) P L (S, W, B) (4 * nN y)).1 (nN x) else stS (mgF V (-1, -1, w, -1, false, l) P L (S, W, B) (4 * nN y)).1 (nN x)) else -2))) (mtJ E ad r i V (if (ixB x (nhV V) && rgB y (nI 1) (nI 60) && rgB z (nI 0) (nI 1)) then (w, l, lg, ll, (mgF V (-1, -1, w, -1, false, l) P L (S, W, B) (4 * nN y)).2.1, (mgF V (-1, -1, w, -1, false, l) P L (S, W, B) (4 * nN y)).2.2, (rwF (mgF V (-1, -1, w, -1, false, l) P L (S, W, B) (4 * nN y)).1 P L a), bp, G) else (w, l, lg, ll, W, B, f, bp, G)) (rwF S P L a)) := by
  have v1 := hV.1
  by_cases hc : (ixB x (nhV V) && rgB y (nI 1) (nI 60) && rgB z (nI 0) (nI 1)) = true
  · rw [if_pos hc, if_pos hc]
    have hc0 := Bool.and_eq_true_iff.mp hc
    have hc1 : ixB x (nhV V) = true := (Bool.and_eq_true_iff.mp hc0.1).1
    have hc2 : rgB y (nI 1) (nI 60) = true := (Bool.and_eq_true_iff.mp hc0.1).2
    have hc3 : rgB z (nI 0) (nI 1) = true := hc0.2
    obtain ⟨h, hh, rfl⟩ := ixB_n v1 hc1
    obtain ⟨d, hd1, hd, rfl⟩ := rgB_n (by decide) (by decide) hc2
    obtain ⟨k, -, hk, rfl⟩ := rgB_n (by decide) (by decide) hc3
    rw [nN_n (show h < 2 ^ 31 by omega), nN_n (show d < 2 ^ 31 by omega)]
    show Md E _ ad _ (mtC E ad r i V (-1, -1, w, -1, false, l) lg ll W B f (rwF S P L a) bp G) _ (mtC E ad r i V (-1, -1, w, -1, false, l) lg ll (mgF V (-1, -1, w, -1, false, l) P L (S, W, B) (4 * d)).2.1 (mgF V (-1, -1, w, -1, false, l) P L (S, W, B) (4 * d)).2.2 (rwF (mgF V (-1, -1, w, -1, false, l) P L (S, W, B) (4 * d)).1 P L a) (rwF S P L a) bp G)
    refine Md.of 0 (by decide) rfl rfl ?_
    refine Tr.aload_n (i := 0) dX10_longer_0 rfl rfl (Eq.refl 1) ?_
    refine Tr.iload_n (i := 1) dX10_longer_1 rfl rfl (Eq.refl 2) ?_
    refine Tr.callVr (L := [0]) (m_isHouse E _ (rP ad r) (iP V (-1, -1, w, -1, false, l) lg ll i) (nhV V) (npV V) (nI h) v1) dX10_longer_2 (kX10_371 (Nat.le_of_ble_eq_true rfl)) iX10_isHouse rfl rfl rfl rfl rfl rfl rfl rfl rfl (Eq.refl 5) ?_
    refine Tr.if_eqB (tgt := 30) dX10_longer_5 (by decide) (Eq.refl 8) (fun h5 => ?_) (fun h5 => ?_)
    · exact absurd (hc1.symm.trans h5) (by decide)
    · refine Tr.iload_n (i := 2) dX10_longer_8 rfl rfl (Eq.refl 9) ?_
      refine Tr.i2l dX10_longer_9 rfl (Eq.refl 10) ?_
      refine Tr.lconst (v := 1) dX10_longer_10 (by decide +kernel) (Eq.refl 11) ?_
      refine Tr.ldc2 dX10_longer_11 qX10_437 (Eq.refl 14) ?_
      refine Tr.callSr (L := []) (m_in E _ (nI d).toInt64 1 60) dX10_longer_14 (kX10_52 (Nat.le_of_ble_eq_true rfl)) sX10_in rfl rfl rfl rfl rfl rfl rfl (Eq.refl 17) ?_
      rw [in32' (nI d) (a := nI 1) (b := nI 60) (by decide) (by decide)]
      refine Tr.if_eqB (tgt := 30) dX10_longer_17 (by decide) (Eq.refl 20) (fun h17 => ?_) (fun h17 => ?_)
      · exact absurd (hc2.symm.trans h17) (by decide)
      · refine Tr.iload_n (i := 3) dX10_longer_20 rfl rfl (Eq.refl 21) ?_
        refine Tr.i2l dX10_longer_21 rfl (Eq.refl 22) ?_
        refine Tr.lconst (v := 0) dX10_longer_22 (by decide +kernel) (Eq.refl 23) ?_
        refine Tr.lconst (v := 1) dX10_longer_23 (by decide +kernel) (Eq.refl 24) ?_
        refine Tr.callSr (L := []) (m_in E _ (nI k).toInt64 0 1) dX10_longer_24 (kX10_52 (Nat.le_of_ble_eq_true rfl)) sX10_in rfl rfl rfl rfl rfl rfl rfl (Eq.refl 27) ?_
        rw [in32' (nI k) (a := nI 0) (b := nI 1) (by decide) (by decide)]
        refine Tr.if_neB (tgt := 33) dX10_longer_27 (by decide) (Eq.refl 30) (fun h27 => ?_) (fun h27 => ?_)
        · refine Tr.aload_n (i := 0) dX10_longer_33 rfl rfl (Eq.refl 34) ?_
          refine Tr.callVs (m_copyNow E ad r i V (-1, -1, w, -1, false, l) lg ll W B f _ bp G) dX10_longer_34 (kX10_402 (Nat.le_of_ble_eq_true rfl)) iX10_copyNow rfl rfl rfl rfl rfl (mt_le) rfl rfl (Eq.refl 37) ?_
          refine Tr.aload_n (i := 0) dX10_longer_37 rfl rfl (Eq.refl 38) ?_
          refine Tr.iconst (v := nI 4) dX10_longer_38 (icN 4) (Eq.refl 39) ?_
          refine Tr.iload_n (i := 2) dX10_longer_39 rfl rfl (Eq.refl 40) ?_
          refine Tr.imulN dX10_longer_40 (Eq.refl 41) ?_
          refine Tr.callVs (m_goTrial E ad r i V (-1, -1, w, -1, false, l) lg ll W B _ bp G S P L a (4 * d) hV hS hP (by omega) ht) dX10_longer_41 (kX10_399 (Nat.le_of_ble_eq_true rfl)) iX10_goTrial rfl rfl rfl rfl rfl (mt_le) rfl rfl (Eq.refl 44) ?_
          generalize (mgF V (-1, -1, w, -1, false, l) P L (S, W, B) (4 * d)) = q at *
          refine Tr.aload_n (i := 0) dX10_longer_44 rfl rfl (Eq.refl 45) ?_
          refine Tr.getf dX10_longer_45 fX10_222 rfl rfl (Eq.refl 48) ?_
          refine Tr.iload_n (i := 3) dX10_longer_48 rfl rfl (Eq.refl 49) ?_
          refine Tr.if_ne (tgt := 57) dX10_longer_49 (by decide) (Eq.refl 52) (fun h49 => ?_) (fun h49 => ?_)
          · rw [if_neg (show ¬ nI k = nI 0 from h49)]
            refine Tr.bipush (v := nI 25) dX10_longer_57 (by decide +kernel) (Eq.refl 59) ?_
            refine Tr.iload_n (i := 1) dX10_longer_59 rfl rfl (Eq.refl 60) ?_
            refine Tr.iaddN dX10_longer_60 (Eq.refl 61) ?_
            refine Tr.ialdN dX10_longer_61 rfl (by omega) (by decide) (Eq.refl 62) ?_
            refine Tr.top (rd_st (by omega)) ?_
            refine Tr.iret dX10_longer_62 rfl (by first | rfl | exact bI_nar _) ?_ ?_
            · rfl
            · rfl
          · rw [if_pos (show nI k = nI 0 from h49)]
            refine Tr.bipush (v := nI 20) dX10_longer_52 (by decide +kernel) (Eq.refl 54) ?_
            refine Tr.goto (pc' := 59) dX10_longer_54 (by decide) ?_
            refine Tr.iload_n (i := 1) dX10_longer_59 rfl rfl (Eq.refl 60) ?_
            refine Tr.iaddN dX10_longer_60 (Eq.refl 61) ?_
            refine Tr.ialdN dX10_longer_61 rfl (by omega) (by decide) (Eq.refl 62) ?_
            refine Tr.top (rd_so (by omega)) ?_
            refine Tr.iret dX10_longer_62 rfl (by first | rfl | exact bI_nar _) ?_ ?_
            · rfl
            · rfl
        · exact absurd (hc3.symm.trans h27) (by decide)
  · rw [if_neg hc, if_neg hc]
    show Md E _ ad _ (mtC E ad r i V (-1, -1, w, -1, false, l) lg ll W B f (rwF S P L a) bp G) _ (mtC E ad r i V (-1, -1, w, -1, false, l) lg ll W B f (rwF S P L a) bp G)
    refine Md.of 0 (by decide) rfl rfl ?_
    refine Tr.aload_n (i := 0) dX10_longer_0 rfl rfl (Eq.refl 1) ?_
    refine Tr.iload_n (i := 1) dX10_longer_1 rfl rfl (Eq.refl 2) ?_
    refine Tr.callVr (L := [0]) (m_isHouse E _ (rP ad r) (iP V (-1, -1, w, -1, false, l) lg ll i) (nhV V) (npV V) x v1) dX10_longer_2 (kX10_371 (Nat.le_of_ble_eq_true rfl)) iX10_isHouse rfl rfl rfl rfl rfl rfl rfl rfl rfl (Eq.refl 5) ?_
    refine Tr.if_eqB (tgt := 30) dX10_longer_5 (by decide) (Eq.refl 8) (fun h5 => ?_) (fun h5 => ?_)
    · refine Tr.bipush (v := (-2)) dX10_longer_30 (by decide +kernel) (Eq.refl 32) ?_
      refine Tr.iret dX10_longer_32 rfl (by first | rfl | exact bI_nar _) ?_ ?_
      · rfl
      · rfl
    · refine Tr.iload_n (i := 2) dX10_longer_8 rfl rfl (Eq.refl 9) ?_
      refine Tr.i2l dX10_longer_9 rfl (Eq.refl 10) ?_
      refine Tr.lconst (v := 1) dX10_longer_10 (by decide +kernel) (Eq.refl 11) ?_
      refine Tr.ldc2 dX10_longer_11 qX10_437 (Eq.refl 14) ?_
      refine Tr.callSr (L := []) (m_in E _ y.toInt64 1 60) dX10_longer_14 (kX10_52 (Nat.le_of_ble_eq_true rfl)) sX10_in rfl rfl rfl rfl rfl rfl rfl (Eq.refl 17) ?_
      rw [in32' y (a := nI 1) (b := nI 60) (by decide) (by decide)]
      refine Tr.if_eqB (tgt := 30) dX10_longer_17 (by decide) (Eq.refl 20) (fun h17 => ?_) (fun h17 => ?_)
      · refine Tr.bipush (v := (-2)) dX10_longer_30 (by decide +kernel) (Eq.refl 32) ?_
        refine Tr.iret dX10_longer_32 rfl (by first | rfl | exact bI_nar _) ?_ ?_
        · rfl
        · rfl
      · refine Tr.iload_n (i := 3) dX10_longer_20 rfl rfl (Eq.refl 21) ?_
        refine Tr.i2l dX10_longer_21 rfl (Eq.refl 22) ?_
        refine Tr.lconst (v := 0) dX10_longer_22 (by decide +kernel) (Eq.refl 23) ?_
        refine Tr.lconst (v := 1) dX10_longer_23 (by decide +kernel) (Eq.refl 24) ?_
        refine Tr.callSr (L := []) (m_in E _ z.toInt64 0 1) dX10_longer_24 (kX10_52 (Nat.le_of_ble_eq_true rfl)) sX10_in rfl rfl rfl rfl rfl rfl rfl (Eq.refl 27) ?_
        rw [in32' z (a := nI 0) (b := nI 1) (by decide) (by decide)]
        refine Tr.if_neB (tgt := 33) dX10_longer_27 (by decide) (Eq.refl 30) (fun h27 => ?_) (fun h27 => ?_)
        · exact absurd (by rw [h5, h17, h27]; rfl) hc
        · refine Tr.bipush (v := (-2)) dX10_longer_30 (by decide +kernel) (Eq.refl 32) ?_
          refine Tr.iret dX10_longer_32 rfl (by first | rfl | exact bI_nar _) ?_ ?_
          · rfl
          · rfl
