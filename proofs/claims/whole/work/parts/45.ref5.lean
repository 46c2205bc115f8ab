/-! THE REFERENCE: one thing changed -/
/-- one more of a row of trials: greatest sum, which, wishes, leaves, row -/
def amS (V : Vil) (o : Ovr) (P : Nat → Nat) (L : Nat → Int32) (S : Scn) (a p : Nat) (q : Fmt) (x : Nat) : Fmt :=
  (if q.1 < smR V o P L (S, q.2.2.1, q.2.2.2.1) p then smR V o P L (S, q.2.2.1, q.2.2.2.1) p else q.1, if q.1 < smR V o P L (S, q.2.2.1, q.2.2.2.1) p then x else q.2.1, (mgF V o P L (S, q.2.2.1, q.2.2.2.1) 4).2.1, (mgF V o P L (S, q.2.2.1, q.2.2.2.1) 4).2.2, rwF (mgF V o P L (S, q.2.2.1, q.2.2.2.1) 4).1 P L a)
theorem amS_e (V : Vil) (o : Ovr) (P : Nat → Nat) (L : Nat → Int32) (S : Scn) (a p : Nat) (m : Int32) (b : Nat) (W1 : Nat → Nat) (B1 f1 : Nat → Int32) (x : Nat) : amS V o P L S a p (m, b, W1, B1, f1) x = (if m < smR V o P L (S, W1, B1) p then smR V o P L (S, W1, B1) p else m, if m < smR V o P L (S, W1, B1) p then x else b, (mgF V o P L (S, W1, B1) 4).2.1, (mgF V o P L (S, W1, B1) 4).2.2, rwF (mgF V o P L (S, W1, B1) 4).1 P L a) := rfl
/-- all four quarters of one at h -/
def peF (P : Nat → Nat) (p h : Nat) : Nat → Nat := upN (upN (upN (upN P (p * 4 + 0) h) (p * 4 + 1) h) (p * 4 + 2) h) (p * 4 + 3) h
set_option maxHeartbeats 4000000 in
set_option maxRecDepth 100000 in
theorem m_guard (E : EnvT) (ad r : Nat → Nat) (i : Nat → Int32) (V : Vil) (w : Int32) (l : Bool) (lg ll : Int32) (W : Nat → Nat) (B f : Nat → Int32) (bp : Nat → Nat) (G : Nat → Int32) (S : Scn) (P : Nat → Nat) (L : Nat → Int32) (a : Nat) (x y : Int32) (hV : Vok V) (hS : Sle V S) (hP : Pok V P) (ht : psS S < 2 ^ 29) : Md E mX10_guard ad [.ref (ad 0), .int x, .int y] (mtJ E ad r i V (w, l, lg, ll, W, B, f, bp, G) (rwF S P L a)) (some (.int (if (ixB x (npV V) && ixB y (npV V) && !decide (x = y)) then (if hoV V (nN x) < 5 then bI (!decide (smR V (-1, -1, w, -1, false, l) (peF P (nN y) (hoV V (nN x))) L (S, (mgF V (-1, -1, w, -1, false, l) P L (S, W, B) 4).2.1, (mgF V (-1, -1, w, -1, false, l) P L (S, W, B) 4).2.2) (nN y) < smR V (-1, -1, w, -1, false, l) P L (S, W, B) (nN y))) else -1) else -2))) (mtJ E ad r i V (if (ixB x (npV V) && ixB y (npV V) && !decide (x = y)) then (if hoV V (nN x) < 5 then (w, l, lg, ll, (mgF V (-1, -1, w, -1, false, l) (peF P (nN y) (hoV V (nN x))) L (S, (mgF V (-1, -1, w, -1, false, l) P L (S, W, B) 4).2.1, (mgF V (-1, -1, w, -1, false, l) P L (S, W, B) 4).2.2) 4).2.1, (mgF V (-1, -1, w, -1, false, l) (peF P (nN y) (hoV V (nN x))) L (S, (mgF V (-1, -1, w, -1, false, l) P L (S, W, B) 4).2.1, (mgF V (-1, -1, w, -1, false, l) P L (S, W, B) 4).2.2) 4).2.2, (rwF (mgF V (-1, -1, w, -1, false, l) (peF P (nN y) (hoV V (nN x))) L (S, (mgF V (-1, -1, w, -1, false, l) P L (S, W, B) 4).2.1, (mgF V (-1, -1, w, -1, false, l) P L (S, W, B) 4).2.2) 4).1 (peF P (nN y) (hoV V (nN x))) L a), bp, G) else (w, l, lg, ll, W, B, f, bp, G)) else (w, l, lg, ll, W, B, f, bp, G)) (rwF S P L a)) := by
  have v1 := hV.1
  have v2 := hV.2.1
  by_cases hc : (ixB x (npV V) && ixB y (npV V) && !decide (x = y)) = true
  · rw [if_pos hc, if_pos hc]
    have hc0 := Bool.and_eq_true_iff.mp hc
    have hc1 : ixB x (npV V) = true := (Bool.and_eq_true_iff.mp hc0.1).1
    have hc2 : ixB y (npV V) = true := (Bool.and_eq_true_iff.mp hc0.1).2
    have hc3 : ¬ x = y := by simpa using hc0.2
    obtain ⟨p, hp, rfl⟩ := ixB_n v2 hc1
    obtain ⟨f0, hf, rfl⟩ := ixB_n v2 hc2
    rw [nN_n (show p < 2 ^ 31 by omega), nN_n (show f0 < 2 ^ 31 by omega)]
    have v4 := hV.2.2.2.1 p hp
    by_cases hh : hoV V p < 5
    · rw [if_pos hh, if_pos hh]
      show Md E _ ad _ (mtC E ad r i V (-1, -1, w, -1, false, l) lg ll W B f (rwF S P L a) bp G) _ (mtC E ad r i V (-1, -1, w, -1, false, l) lg ll (mgF V (-1, -1, w, -1, false, l) (peF P f0 (hoV V p)) L (S, (mgF V (-1, -1, w, -1, false, l) P L (S, W, B) 4).2.1, (mgF V (-1, -1, w, -1, false, l) P L (S, W, B) 4).2.2) 4).2.1 (mgF V (-1, -1, w, -1, false, l) (peF P f0 (hoV V p)) L (S, (mgF V (-1, -1, w, -1, false, l) P L (S, W, B) 4).2.1, (mgF V (-1, -1, w, -1, false, l) P L (S, W, B) 4).2.2) 4).2.2 (rwF (mgF V (-1, -1, w, -1, false, l) (peF P f0 (hoV V p)) L (S, (mgF V (-1, -1, w, -1, false, l) P L (S, W, B) 4).2.1, (mgF V (-1, -1, w, -1, false, l) P L (S, W, B) 4).2.2) 4).1 (peF P f0 (hoV V p)) L a) (rwF S P L a) bp G)
      refine Md.of 2 (by decide) rfl rfl ?_
      refine Tr.aload_n (i := 0) dX10_guard_0 rfl rfl (Eq.refl 1) ?_
      refine Tr.iload_n (i := 1) dX10_guard_1 rfl rfl (Eq.refl 2) ?_
      refine Tr.callVr (L := [0]) (m_isPerson E _ (rP ad r) (iP V (-1, -1, w, -1, false, l) lg ll i) (nhV V) (npV V) (nI p) v2) dX10_guard_2 (kX10_309 (Nat.le_of_ble_eq_true rfl)) iX10_isPerson rfl rfl rfl rfl rfl rfl rfl rfl rfl (Eq.refl 5) ?_
      refine Tr.if_eqB (tgt := 21) dX10_guard_5 (by decide) (Eq.refl 8) (fun h5 => ?_) (fun h5 => ?_)
      · exact absurd (hc1.symm.trans h5) (by decide)
      · refine Tr.aload_n (i := 0) dX10_guard_8 rfl rfl (Eq.refl 9) ?_
        refine Tr.iload_n (i := 2) dX10_guard_9 rfl rfl (Eq.refl 10) ?_
        refine Tr.callVr (L := [0]) (m_isPerson E _ (rP ad r) (iP V (-1, -1, w, -1, false, l) lg ll i) (nhV V) (npV V) (nI f0) v2) dX10_guard_10 (kX10_309 (Nat.le_of_ble_eq_true rfl)) iX10_isPerson rfl rfl rfl rfl rfl rfl rfl rfl rfl (Eq.refl 13) ?_
        refine Tr.if_eqB (tgt := 21) dX10_guard_13 (by decide) (Eq.refl 16) (fun h13 => ?_) (fun h13 => ?_)
        · exact absurd (hc2.symm.trans h13) (by decide)
        · refine Tr.iload_n (i := 1) dX10_guard_16 rfl rfl (Eq.refl 17) ?_
          refine Tr.iload_n (i := 2) dX10_guard_17 rfl rfl (Eq.refl 18) ?_
          refine Tr.icmp_neN (tgt := 24) dX10_guard_18 (by decide) (Eq.refl 21) (by omega) (by omega) (fun h18 => ?_) (fun h18 => ?_)
          · refine Tr.aload_n (i := 0) dX10_guard_24 rfl rfl (Eq.refl 25) ?_
            refine Tr.getf dX10_guard_25 fX10_212 rfl rfl (Eq.refl 28) ?_
            refine Tr.iload_n (i := 1) dX10_guard_28 rfl rfl (Eq.refl 29) ?_
            refine Tr.ialdN dX10_guard_29 rfl (by omega) (by decide) (Eq.refl 30) ?_
            refine Tr.iconst (v := (-1)) dX10_guard_30 (by decide +kernel) (Eq.refl 31) ?_
            refine Tr.icmp_ne (tgt := 36) dX10_guard_31 (by decide) (Eq.refl 34) (fun h31 => ?_) (fun h31 => ?_)
            · refine Tr.aload_n (i := 0) dX10_guard_36 rfl rfl (Eq.refl 37) ?_
              refine Tr.iload_n (i := 2) dX10_guard_37 rfl rfl (Eq.refl 38) ?_
              refine Tr.callVs (m_sumNow E ad r i V (-1, -1, w, -1, false, l) lg ll W B f f bp G S P L a f0 hV hS hP ht hf) dX10_guard_38 (kX10_408 (Nat.le_of_ble_eq_true rfl)) iX10_sumNow rfl rfl rfl rfl rfl (mt_le) rfl rfl (Eq.refl 41) ?_
              generalize smR V (-1, -1, w, -1, false, l) P L (S, W, B) f0 = sm1 at *
              generalize (mgF V (-1, -1, w, -1, false, l) P L (S, W, B) 4) = q1 at *
              obtain ⟨S1, W1, B1⟩ := q1
              refine Tr.istore_n (i := 3) dX10_guard_41 rfl rfl rfl (Eq.refl 42) ?_
              refine Tr.aload_n (i := 0) dX10_guard_42 rfl rfl (Eq.refl 43) ?_
              refine Tr.callVs (m_copyNow E ad r i V (-1, -1, w, -1, false, l) lg ll W1 B1 _ _ bp G) dX10_guard_43 (kX10_402 (Nat.le_of_ble_eq_true rfl)) iX10_copyNow rfl rfl rfl rfl rfl (mt_le) rfl rfl (Eq.refl 46) ?_
              refine Tr.iconst (v := nI 0) dX10_guard_46 (icN 0) (Eq.refl 47) ?_
              refine Tr.istore dX10_guard_47 rfl rfl (Eq.refl 49) ?_
              refine Tr.iload dX10_guard_49 rfl (Eq.refl 51) ?_
              refine Tr.iconst (v := nI 4) dX10_guard_51 (icN 4) (Eq.refl 52) ?_
              refine Tr.icmp_geL (tgt := 81) dX10_guard_52 (by decide) (Eq.refl 55) (fun h => absurd h (by decide)) (fun _ => ?_)
              refine Tr.aload_n (i := 0) dX10_guard_55 rfl rfl (Eq.refl 56) ?_
              refine Tr.getf dX10_guard_56 fX10_222 rfl rfl (Eq.refl 59) ?_
              refine Tr.bipush (v := nI 35) dX10_guard_59 (by decide +kernel) (Eq.refl 61) ?_
              refine Tr.iconst (v := nI 4) dX10_guard_61 (icN 4) (Eq.refl 62) ?_
              refine Tr.iload_n (i := 2) dX10_guard_62 rfl rfl (Eq.refl 63) ?_
              refine Tr.imulN dX10_guard_63 (Eq.refl 64) ?_
              refine Tr.iaddN dX10_guard_64 (Eq.refl 65) ?_
              refine Tr.iload dX10_guard_65 rfl (Eq.refl 67) ?_
              refine Tr.iaddN dX10_guard_67 (Eq.refl 68) ?_
              refine Tr.aload_n (i := 0) dX10_guard_68 rfl rfl (Eq.refl 69) ?_
              refine Tr.getf dX10_guard_69 fX10_212 rfl rfl (Eq.refl 72) ?_
              refine Tr.iload_n (i := 1) dX10_guard_72 rfl rfl (Eq.refl 73) ?_
              refine Tr.ialdN dX10_guard_73 rfl (by omega) (by decide) (Eq.refl 74) ?_
              rw [cl_lt hh]
              refine Tr.iastN dX10_guard_74 rfl (by omega) (by decide) (Eq.refl 75) ?_
              refine Tr.pic (mt_pl (by omega)) ?_
              refine Tr.iinc (v := nI 1) dX10_guard_75 rfl (by decide +kernel) rfl rfl (Eq.refl 78) ?_
              refine Tr.goto (pc' := 49) dX10_guard_78 (by decide) ?_
              refine Tr.iload dX10_guard_49 rfl (Eq.refl 51) ?_
              refine Tr.iconst (v := nI 4) dX10_guard_51 (icN 4) (Eq.refl 52) ?_
              refine Tr.icmp_geL (tgt := 81) dX10_guard_52 (by decide) (Eq.refl 55) (fun h => absurd h (by decide)) (fun _ => ?_)
              refine Tr.aload_n (i := 0) dX10_guard_55 rfl rfl (Eq.refl 56) ?_
              refine Tr.getf dX10_guard_56 fX10_222 rfl rfl (Eq.refl 59) ?_
              refine Tr.bipush (v := nI 35) dX10_guard_59 (by decide +kernel) (Eq.refl 61) ?_
              refine Tr.iconst (v := nI 4) dX10_guard_61 (icN 4) (Eq.refl 62) ?_
              refine Tr.iload_n (i := 2) dX10_guard_62 rfl rfl (Eq.refl 63) ?_
              refine Tr.imulN dX10_guard_63 (Eq.refl 64) ?_
              refine Tr.iaddN dX10_guard_64 (Eq.refl 65) ?_
              refine Tr.iload dX10_guard_65 rfl (Eq.refl 67) ?_
              refine Tr.iaddN dX10_guard_67 (Eq.refl 68) ?_
              refine Tr.aload_n (i := 0) dX10_guard_68 rfl rfl (Eq.refl 69) ?_
              refine Tr.getf dX10_guard_69 fX10_212 rfl rfl (Eq.refl 72) ?_
              refine Tr.iload_n (i := 1) dX10_guard_72 rfl rfl (Eq.refl 73) ?_
              refine Tr.ialdN dX10_guard_73 rfl (by omega) (by decide) (Eq.refl 74) ?_
              rw [cl_lt hh]
              refine Tr.iastN dX10_guard_74 rfl (by omega) (by decide) (Eq.refl 75) ?_
              refine Tr.pic (mt_pl (by omega)) ?_
              refine Tr.iinc (v := nI 2) dX10_guard_75 rfl (by decide +kernel) rfl rfl (Eq.refl 78) ?_
              refine Tr.goto (pc' := 49) dX10_guard_78 (by decide) ?_
              refine Tr.iload dX10_guard_49 rfl (Eq.refl 51) ?_
              refine Tr.iconst (v := nI 4) dX10_guard_51 (icN 4) (Eq.refl 52) ?_
              refine Tr.icmp_geL (tgt := 81) dX10_guard_52 (by decide) (Eq.refl 55) (fun h => absurd h (by decide)) (fun _ => ?_)
              refine Tr.aload_n (i := 0) dX10_guard_55 rfl rfl (Eq.refl 56) ?_
              refine Tr.getf dX10_guard_56 fX10_222 rfl rfl (Eq.refl 59) ?_
              refine Tr.bipush (v := nI 35) dX10_guard_59 (by decide +kernel) (Eq.refl 61) ?_
              refine Tr.iconst (v := nI 4) dX10_guard_61 (icN 4) (Eq.refl 62) ?_
              refine Tr.iload_n (i := 2) dX10_guard_62 rfl rfl (Eq.refl 63) ?_
              refine Tr.imulN dX10_guard_63 (Eq.refl 64) ?_
              refine Tr.iaddN dX10_guard_64 (Eq.refl 65) ?_
              refine Tr.iload dX10_guard_65 rfl (Eq.refl 67) ?_
              refine Tr.iaddN dX10_guard_67 (Eq.refl 68) ?_
              refine Tr.aload_n (i := 0) dX10_guard_68 rfl rfl (Eq.refl 69) ?_
              refine Tr.getf dX10_guard_69 fX10_212 rfl rfl (Eq.refl 72) ?_
              refine Tr.iload_n (i := 1) dX10_guard_72 rfl rfl (Eq.refl 73) ?_
              refine Tr.ialdN dX10_guard_73 rfl (by omega) (by decide) (Eq.refl 74) ?_
              rw [cl_lt hh]
              refine Tr.iastN dX10_guard_74 rfl (by omega) (by decide) (Eq.refl 75) ?_
              refine Tr.pic (mt_pl (by omega)) ?_
              refine Tr.iinc (v := nI 3) dX10_guard_75 rfl (by decide +kernel) rfl rfl (Eq.refl 78) ?_
              refine Tr.goto (pc' := 49) dX10_guard_78 (by decide) ?_
              refine Tr.iload dX10_guard_49 rfl (Eq.refl 51) ?_
              refine Tr.iconst (v := nI 4) dX10_guard_51 (icN 4) (Eq.refl 52) ?_
              refine Tr.icmp_geL (tgt := 81) dX10_guard_52 (by decide) (Eq.refl 55) (fun h => absurd h (by decide)) (fun _ => ?_)
              refine Tr.aload_n (i := 0) dX10_guard_55 rfl rfl (Eq.refl 56) ?_
              refine Tr.getf dX10_guard_56 fX10_222 rfl rfl (Eq.refl 59) ?_
              refine Tr.bipush (v := nI 35) dX10_guard_59 (by decide +kernel) (Eq.refl 61) ?_
              refine Tr.iconst (v := nI 4) dX10_guard_61 (icN 4) (Eq.refl 62) ?_
              refine Tr.iload_n (i := 2) dX10_guard_62 rfl rfl (Eq.refl 63) ?_
              refine Tr.imulN dX10_guard_63 (Eq.refl 64) ?_
              refine Tr.iaddN dX10_guard_64 (Eq.refl 65) ?_
              refine Tr.iload dX10_guard_65 rfl (Eq.refl 67) ?_
              refine Tr.iaddN dX10_guard_67 (Eq.refl 68) ?_
              refine Tr.aload_n (i := 0) dX10_guard_68 rfl rfl (Eq.refl 69) ?_
              refine Tr.getf dX10_guard_69 fX10_212 rfl rfl (Eq.refl 72) ?_
              refine Tr.iload_n (i := 1) dX10_guard_72 rfl rfl (Eq.refl 73) ?_
              refine Tr.ialdN dX10_guard_73 rfl (by omega) (by decide) (Eq.refl 74) ?_
              rw [cl_lt hh]
              refine Tr.iastN dX10_guard_74 rfl (by omega) (by decide) (Eq.refl 75) ?_
              refine Tr.pic (mt_pl (by omega)) ?_
              refine Tr.iinc (v := nI 4) dX10_guard_75 rfl (by decide +kernel) rfl rfl (Eq.refl 78) ?_
              refine Tr.goto (pc' := 49) dX10_guard_78 (by decide) ?_
              refine Tr.iload dX10_guard_49 rfl (Eq.refl 51) ?_
              refine Tr.iconst (v := nI 4) dX10_guard_51 (icN 4) (Eq.refl 52) ?_
              refine Tr.icmp_geL (tgt := 81) dX10_guard_52 (by decide) (Eq.refl 55) (fun _ => ?_) (fun h => absurd h (by decide))
              refine Tr.pic (w' := mtC E ad r i V (-1, -1, w, -1, false, l) lg ll W1 B1 (rwF S (peF P f0 (hoV V p)) L a) (rwF S P L a) bp G) rfl ?_
              refine Tr.aload_n (i := 0) dX10_guard_81 rfl rfl (Eq.refl 82) ?_
              refine Tr.iload_n (i := 2) dX10_guard_82 rfl rfl (Eq.refl 83) ?_
              refine Tr.callVs (m_sumOf E ad r i V (-1, -1, w, -1, false, l) lg ll W1 B1 _ bp G S (peF P f0 (hoV V p)) L a f0 hV hS (Pok_up (Pok_up (Pok_up (Pok_up hP _ _ (by omega)) _ _ (by omega)) _ _ (by omega)) _ _ (by omega)) ht hf) dX10_guard_83 (kX10_405 (Nat.le_of_ble_eq_true rfl)) iX10_sumOf rfl rfl rfl rfl rfl (mt_le) rfl rfl (Eq.refl 86) ?_
              refine Tr.iload_n (i := 3) dX10_guard_86 rfl rfl (Eq.refl 87) ?_
              refine Tr.icmp_lt (tgt := 94) dX10_guard_87 (by decide) (Eq.refl 90) (fun h87 => ?_) (fun h87 => ?_)
              · rw [show (!decide (smR V (-1, -1, w, -1, false, l) (peF P f0 (hoV V p)) L (S, W1, B1) f0 < sm1)) = false from by simp [h87]]
                refine Tr.iconst (v := nI 0) dX10_guard_94 (icN 0) (Eq.refl 95) ?_
                refine Tr.iret dX10_guard_95 rfl (by first | rfl | exact bI_nar _) ?_ ?_
                · rfl
                · rfl
              · rw [show (!decide (smR V (-1, -1, w, -1, false, l) (peF P f0 (hoV V p)) L (S, W1, B1) f0 < sm1)) = true from by simp [h87]]
                refine Tr.iconst (v := nI 1) dX10_guard_90 (icN 1) (Eq.refl 91) ?_
                refine Tr.goto (pc' := 95) dX10_guard_91 (by decide) ?_
                refine Tr.iret dX10_guard_95 rfl (by first | rfl | exact bI_nar _) ?_ ?_
                · rfl
                · rfl
            · exact absurd hh (cl_none.mp h31)
          · exact absurd (by rw [h18]) hc3
    · rw [if_neg hh, if_neg hh]
      show Md E _ ad _ (mtC E ad r i V (-1, -1, w, -1, false, l) lg ll W B f (rwF S P L a) bp G) _ (mtC E ad r i V (-1, -1, w, -1, false, l) lg ll W B f (rwF S P L a) bp G)
      refine Md.of 2 (by decide) rfl rfl ?_
      refine Tr.aload_n (i := 0) dX10_guard_0 rfl rfl (Eq.refl 1) ?_
      refine Tr.iload_n (i := 1) dX10_guard_1 rfl rfl (Eq.refl 2) ?_
      refine Tr.callVr (L := [0]) (m_isPerson E _ (rP ad r) (iP V (-1, -1, w, -1, false, l) lg ll i) (nhV V) (npV V) (nI p) v2) dX10_guard_2 (kX10_309 (Nat.le_of_ble_eq_true rfl)) iX10_isPerson rfl rfl rfl rfl rfl rfl rfl rfl rfl (Eq.refl 5) ?_
      refine Tr.if_eqB (tgt := 21) dX10_guard_5 (by decide) (Eq.refl 8) (fun h5 => ?_) (fun h5 => ?_)
      · exact absurd (hc1.symm.trans h5) (by decide)
      · refine Tr.aload_n (i := 0) dX10_guard_8 rfl rfl (Eq.refl 9) ?_
        refine Tr.iload_n (i := 2) dX10_guard_9 rfl rfl (Eq.refl 10) ?_
        refine Tr.callVr (L := [0]) (m_isPerson E _ (rP ad r) (iP V (-1, -1, w, -1, false, l) lg ll i) (nhV V) (npV V) (nI f0) v2) dX10_guard_10 (kX10_309 (Nat.le_of_ble_eq_true rfl)) iX10_isPerson rfl rfl rfl rfl rfl rfl rfl rfl rfl (Eq.refl 13) ?_
        refine Tr.if_eqB (tgt := 21) dX10_guard_13 (by decide) (Eq.refl 16) (fun h13 => ?_) (fun h13 => ?_)
        · exact absurd (hc2.symm.trans h13) (by decide)
        · refine Tr.iload_n (i := 1) dX10_guard_16 rfl rfl (Eq.refl 17) ?_
          refine Tr.iload_n (i := 2) dX10_guard_17 rfl rfl (Eq.refl 18) ?_
          refine Tr.icmp_neN (tgt := 24) dX10_guard_18 (by decide) (Eq.refl 21) (by omega) (by omega) (fun h18 => ?_) (fun h18 => ?_)
          · refine Tr.aload_n (i := 0) dX10_guard_24 rfl rfl (Eq.refl 25) ?_
            refine Tr.getf dX10_guard_25 fX10_212 rfl rfl (Eq.refl 28) ?_
            refine Tr.iload_n (i := 1) dX10_guard_28 rfl rfl (Eq.refl 29) ?_
            refine Tr.ialdN dX10_guard_29 rfl (by omega) (by decide) (Eq.refl 30) ?_
            refine Tr.iconst (v := (-1)) dX10_guard_30 (by decide +kernel) (Eq.refl 31) ?_
            refine Tr.icmp_ne (tgt := 36) dX10_guard_31 (by decide) (Eq.refl 34) (fun h31 => ?_) (fun h31 => ?_)
            · exact absurd (cl_none.mpr hh) h31
            · refine Tr.iconst (v := (-1)) dX10_guard_34 (by decide +kernel) (Eq.refl 35) ?_
              refine Tr.iret dX10_guard_35 rfl (by first | rfl | exact bI_nar _) ?_ ?_
              · rfl
              · rfl
          · exact absurd (by rw [h18]) hc3
  · rw [if_neg hc, if_neg hc]
    show Md E _ ad _ (mtC E ad r i V (-1, -1, w, -1, false, l) lg ll W B f (rwF S P L a) bp G) _ (mtC E ad r i V (-1, -1, w, -1, false, l) lg ll W B f (rwF S P L a) bp G)
    refine Md.of 2 (by decide) rfl rfl ?_
    refine Tr.aload_n (i := 0) dX10_guard_0 rfl rfl (Eq.refl 1) ?_
    refine Tr.iload_n (i := 1) dX10_guard_1 rfl rfl (Eq.refl 2) ?_
    refine Tr.callVr (L := [0]) (m_isPerson E _ (rP ad r) (iP V (-1, -1, w, -1, false, l) lg ll i) (nhV V) (npV V) x v2) dX10_guard_2 (kX10_309 (Nat.le_of_ble_eq_true rfl)) iX10_isPerson rfl rfl rfl rfl rfl rfl rfl rfl rfl (Eq.refl 5) ?_
    refine Tr.if_eqB (tgt := 21) dX10_guard_5 (by decide) (Eq.refl 8) (fun h5 => ?_) (fun h5 => ?_)
    · refine Tr.bipush (v := (-2)) dX10_guard_21 (by decide +kernel) (Eq.refl 23) ?_
      refine Tr.iret dX10_guard_23 rfl (by first | rfl | exact bI_nar _) ?_ ?_
      · rfl
      · rfl
    · refine Tr.aload_n (i := 0) dX10_guard_8 rfl rfl (Eq.refl 9) ?_
      refine Tr.iload_n (i := 2) dX10_guard_9 rfl rfl (Eq.refl 10) ?_
      refine Tr.callVr (L := [0]) (m_isPerson E _ (rP ad r) (iP V (-1, -1, w, -1, false, l) lg ll i) (nhV V) (npV V) y v2) dX10_guard_10 (kX10_309 (Nat.le_of_ble_eq_true rfl)) iX10_isPerson rfl rfl rfl rfl rfl rfl rfl rfl rfl (Eq.refl 13) ?_
      refine Tr.if_eqB (tgt := 21) dX10_guard_13 (by decide) (Eq.refl 16) (fun h13 => ?_) (fun h13 => ?_)
      · refine Tr.bipush (v := (-2)) dX10_guard_21 (by decide +kernel) (Eq.refl 23) ?_
        refine Tr.iret dX10_guard_23 rfl (by first | rfl | exact bI_nar _) ?_ ?_
        · rfl
        · rfl
      · refine Tr.iload_n (i := 1) dX10_guard_16 rfl rfl (Eq.refl 17) ?_
        refine Tr.iload_n (i := 2) dX10_guard_17 rfl rfl (Eq.refl 18) ?_
        refine Tr.icmp_ne (tgt := 24) dX10_guard_18 (by decide) (Eq.refl 21) (fun h18 => ?_) (fun h18 => ?_)
        · exact absurd (by rw [h5, h13]; simp [h18]) hc
        · refine Tr.bipush (v := (-2)) dX10_guard_21 (by decide +kernel) (Eq.refl 23) ?_
          refine Tr.iret dX10_guard_23 rfl (by first | rfl | exact bI_nar _) ?_ ?_
          · rfl
          · rfl
/-- out in the first so many quarters, one by one -/
def whF (V : Vil) (o : Ovr) (P : Nat → Nat) (L : Nat → Int32) (S : Scn) (a p : Nat) (q : Fmt) : Nat → Fmt
  | 0 => q
  | n + 1 => amS V o (upN P (p * 4 + n) 5) L S a p (whF V o P L S a p q n) n
set_option maxHeartbeats 4000000 in
set_option maxRecDepth 100000 in
theorem m_when (E : EnvT) (ad r : Nat → Nat) (i : Nat → Int32) (V : Vil) (w : Int32) (l : Bool) (lg ll : Int32) (W : Nat → Nat) (B f : Nat → Int32) (bp : Nat → Nat) (G : Nat → Int32) (S : Scn) (P : Nat → Nat) (L : Nat → Int32) (a : Nat) (x : Int32) (hV : Vok V) (hS : Sle V S) (hP : Pok V P) (ht : psS S < 2 ^ 29) : Md E mX10_when ad [.ref (ad 0), .int x] (mtJ E ad r i V (w, l, lg, ll, W, B, f, bp, G) (rwF S P L a)) (some (.int (if ixB x (npV V) then nI (whF V (-1, -1, w, -1, false, l) P L S a (nN x) (-1000000, 0, W, B, f) 4).2.1 else -2))) (mtJ E ad r i V (if ixB x (npV V) then (w, l, lg, ll, (whF V (-1, -1, w, -1, false, l) P L S a (nN x) (-1000000, 0, W, B, f) 4).2.2.1, (whF V (-1, -1, w, -1, false, l) P L S a (nN x) (-1000000, 0, W, B, f) 4).2.2.2.1, (whF V (-1, -1, w, -1, false, l) P L S a (nN x) (-1000000, 0, W, B, f) 4).2.2.2.2, bp, G) else (w, l, lg, ll, W, B, f, bp, G)) (rwF S P L a)) := by
  have v2 := hV.2.1
  by_cases hc : ixB x (npV V) = true
  · rw [if_pos hc, if_pos hc]
    obtain ⟨p, hp, rfl⟩ := ixB_n v2 hc
    rw [nN_n (by omega)]
    show Md E _ ad _ (mtC E ad r i V (-1, -1, w, -1, false, l) lg ll W B f (rwF S P L a) bp G) _ (mtC E ad r i V (-1, -1, w, -1, false, l) lg ll (whF V (-1, -1, w, -1, false, l) P L S a p (-1000000, 0, W, B, f) 4).2.2.1 (whF V (-1, -1, w, -1, false, l) P L S a p (-1000000, 0, W, B, f) 4).2.2.2.1 (whF V (-1, -1, w, -1, false, l) P L S a p (-1000000, 0, W, B, f) 4).2.2.2.2 (rwF S P L a) bp G)
    refine Md.of 4 (by decide) rfl rfl ?_
    refine Tr.aload_n (i := 0) dX10_when_0 rfl rfl (Eq.refl 1) ?_
    refine Tr.iload_n (i := 1) dX10_when_1 rfl rfl (Eq.refl 2) ?_
    refine Tr.callVr (L := [0]) (m_isPerson E _ (rP ad r) (iP V (-1, -1, w, -1, false, l) lg ll i) (nhV V) (npV V) (nI p) v2) dX10_when_2 (kX10_309 (Nat.le_of_ble_eq_true rfl)) iX10_isPerson rfl rfl rfl rfl rfl rfl rfl rfl rfl (Eq.refl 5) ?_
    refine Tr.if_neB (tgt := 11) dX10_when_5 (by decide) (Eq.refl 8) (fun h5 => ?_) (fun h5 => ?_)
    · refine Tr.iconst (v := nI 0) dX10_when_11 (icN 0) (Eq.refl 12) ?_
      refine Tr.istore_n (i := 2) dX10_when_12 rfl rfl rfl (Eq.refl 13) ?_
      refine Tr.ldcw dX10_when_13 qX10_395 (Eq.refl 16) ?_
      refine Tr.istore_n (i := 3) dX10_when_16 rfl rfl rfl (Eq.refl 17) ?_
      refine Tr.iconst (v := nI 0) dX10_when_17 (icN 0) (Eq.refl 18) ?_
      refine Tr.istore dX10_when_18 rfl rfl (Eq.refl 20) ?_
      skip
      refine Tr.mask [true, true, true, true, true, true] (lv' := [some (.ref (ad 0)), some (.int (nI p)), some (.int (nI (whF V (-1, -1, w, -1, false, l) P L S a p (-1000000, 0, W, B, f) 0).2.1)), some (.int (whF V (-1, -1, w, -1, false, l) P L S a p (-1000000, 0, W, B, f) 0).1), some (.int (nI 0)), none]) rfl ?_
      refine Tr.pic (w' := (mtC E ad r i V (-1, -1, w, -1, false, l) lg ll (whF V (-1, -1, w, -1, false, l) P L S a p (-1000000, 0, W, B, f) 0).2.2.1 (whF V (-1, -1, w, -1, false, l) P L S a p (-1000000, 0, W, B, f) 0).2.2.2.1 (whF V (-1, -1, w, -1, false, l) P L S a p (-1000000, 0, W, B, f) 0).2.2.2.2 (rwF S P L a) bp G)) rfl ?_
      refine loopD (P := fun j => Tr _ 0 0 20 [some (.ref (ad 0)), some (.int (nI p)), some (.int (nI (whF V (-1, -1, w, -1, false, l) P L S a p (-1000000, 0, W, B, f) j).2.1)), some (.int (whF V (-1, -1, w, -1, false, l) P L S a p (-1000000, 0, W, B, f) j).1), some (.int (nI j)), none] [] (mtC E ad r i V (-1, -1, w, -1, false, l) lg ll (whF V (-1, -1, w, -1, false, l) P L S a p (-1000000, 0, W, B, f) j).2.2.1 (whF V (-1, -1, w, -1, false, l) P L S a p (-1000000, 0, W, B, f) j).2.2.2.1 (whF V (-1, -1, w, -1, false, l) P L S a p (-1000000, 0, W, B, f) j).2.2.2.2 (rwF S P L a) bp G)) 4 ?_ (fun j hj ih => ?_)
      · refine Tr.iload dX10_when_20 rfl (Eq.refl 22) ?_
        refine Tr.iconst (v := nI 4) dX10_when_22 (icN 4) (Eq.refl 23) ?_
        refine Tr.icmp_geN (tgt := 73) dX10_when_23 (by decide) (Eq.refl 26) (by omega) (by omega) (fun h23 => ?_) (fun h23 => ?_)
        · refine Tr.iload_n (i := 2) dX10_when_73 rfl rfl (Eq.refl 74) ?_
          refine Tr.iret dX10_when_74 rfl (by first | rfl | exact bI_nar _) ?_ ?_
          · rfl
          · rfl
        · exact absurd h23 (by omega)
      · have hu : (whF V (-1, -1, w, -1, false, l) P L S a p (-1000000, 0, W, B, f) (j + 1)) = amS V (-1, -1, w, -1, false, l) (upN P (p * 4 + j) 5) L S a p (whF V (-1, -1, w, -1, false, l) P L S a p (-1000000, 0, W, B, f) j) j := rfl
        rw [hu] at ih
        clear hu
        generalize (whF V (-1, -1, w, -1, false, l) P L S a p (-1000000, 0, W, B, f) j) = q at *
        obtain ⟨m, b, W1, B1, f1⟩ := q
        rw [amS_e] at ih
        show Tr _ 0 0 20 [some (.ref (ad 0)), some (.int (nI p)), some (.int (nI b)), some (.int m), some (.int (nI j)), none] [] (mtC E ad r i V (-1, -1, w, -1, false, l) lg ll W1 B1 f1 (rwF S P L a) bp G)
        refine Tr.iload dX10_when_20 rfl (Eq.refl 22) ?_
        refine Tr.iconst (v := nI 4) dX10_when_22 (icN 4) (Eq.refl 23) ?_
        refine Tr.icmp_geN (tgt := 73) dX10_when_23 (by decide) (Eq.refl 26) (by omega) (by omega) (fun h23 => ?_) (fun h23 => ?_)
        · exact absurd h23 (by omega)
        · refine Tr.aload_n (i := 0) dX10_when_26 rfl rfl (Eq.refl 27) ?_
          refine Tr.callVs (m_copyNow E ad r i V (-1, -1, w, -1, false, l) lg ll W1 B1 f1 _ bp G) dX10_when_27 (kX10_402 (Nat.le_of_ble_eq_true rfl)) iX10_copyNow rfl rfl rfl rfl rfl (mt_le) rfl rfl (Eq.refl 30) ?_
          refine Tr.aload_n (i := 0) dX10_when_30 rfl rfl (Eq.refl 31) ?_
          refine Tr.getf dX10_when_31 fX10_222 rfl rfl (Eq.refl 34) ?_
          refine Tr.bipush (v := nI 35) dX10_when_34 (by decide +kernel) (Eq.refl 36) ?_
          refine Tr.iconst (v := nI 4) dX10_when_36 (icN 4) (Eq.refl 37) ?_
          refine Tr.iload_n (i := 1) dX10_when_37 rfl rfl (Eq.refl 38) ?_
          refine Tr.imulN dX10_when_38 (Eq.refl 39) ?_
          refine Tr.iaddN dX10_when_39 (Eq.refl 40) ?_
          refine Tr.iload dX10_when_40 rfl (Eq.refl 42) ?_
          refine Tr.iaddN dX10_when_42 (Eq.refl 43) ?_
          refine Tr.iconst (v := nI 5) dX10_when_43 (icN 5) (Eq.refl 44) ?_
          refine Tr.iastN dX10_when_44 rfl (by omega) (by decide) (Eq.refl 45) ?_
          refine Tr.pic (mt_pl (by omega)) ?_
          refine Tr.aload_n (i := 0) dX10_when_45 rfl rfl (Eq.refl 46) ?_
          refine Tr.iload_n (i := 1) dX10_when_46 rfl rfl (Eq.refl 47) ?_
          refine Tr.callVs (m_sumOf E ad r i V (-1, -1, w, -1, false, l) lg ll W1 B1 _ bp G S (upN P (p * 4 + j) 5) L a p hV hS (Pok_up hP _ _ (Or.inr rfl)) ht hp) dX10_when_47 (kX10_405 (Nat.le_of_ble_eq_true rfl)) iX10_sumOf rfl rfl rfl rfl rfl (mt_le) rfl rfl (Eq.refl 50) ?_
          refine Tr.istore dX10_when_50 rfl rfl (Eq.refl 52) ?_
          refine Tr.iload dX10_when_52 rfl (Eq.refl 54) ?_
          refine Tr.iload_n (i := 3) dX10_when_54 rfl rfl (Eq.refl 55) ?_
          refine Tr.icmp_gt (tgt := 61) dX10_when_55 (by decide) (Eq.refl 58) (fun h55 => ?_) (fun h55 => ?_)
          · rw [if_pos h55, if_pos h55] at ih
            refine Tr.iload dX10_when_61 rfl (Eq.refl 63) ?_
            refine Tr.istore_n (i := 3) dX10_when_63 rfl rfl rfl (Eq.refl 64) ?_
            refine Tr.iload dX10_when_64 rfl (Eq.refl 66) ?_
            refine Tr.istore_n (i := 2) dX10_when_66 rfl rfl rfl (Eq.refl 67) ?_
            refine Tr.iincN dX10_when_67 rfl rfl rfl (Eq.refl 70) ?_
            refine Tr.goto (pc' := 20) dX10_when_70 (by decide) ?_
            exact Tr.mask [true, true, true, true, true, false] rfl ih
          · rw [if_neg h55, if_neg h55] at ih
            refine Tr.goto (pc' := 67) dX10_when_58 (by decide) ?_
            refine Tr.iincN dX10_when_67 rfl rfl rfl (Eq.refl 70) ?_
            refine Tr.goto (pc' := 20) dX10_when_70 (by decide) ?_
            exact Tr.mask [true, true, true, true, true, false] rfl ih
    · exact absurd (hc.symm.trans h5) (by decide)
  · rw [if_neg hc, if_neg hc]
    show Md E _ ad _ (mtC E ad r i V (-1, -1, w, -1, false, l) lg ll W B f (rwF S P L a) bp G) _ (mtC E ad r i V (-1, -1, w, -1, false, l) lg ll W B f (rwF S P L a) bp G)
    refine Md.of 4 (by decide) rfl rfl ?_
    refine Tr.aload_n (i := 0) dX10_when_0 rfl rfl (Eq.refl 1) ?_
    refine Tr.iload_n (i := 1) dX10_when_1 rfl rfl (Eq.refl 2) ?_
    refine Tr.callVr (L := [0]) (m_isPerson E _ (rP ad r) (iP V (-1, -1, w, -1, false, l) lg ll i) (nhV V) (npV V) x v2) dX10_when_2 (kX10_309 (Nat.le_of_ble_eq_true rfl)) iX10_isPerson rfl rfl rfl rfl rfl rfl rfl rfl rfl (Eq.refl 5) ?_
    refine Tr.if_neB (tgt := 11) dX10_when_5 (by decide) (Eq.refl 8) (fun h5 => ?_) (fun h5 => ?_)
    · exact absurd h5 hc
    · refine Tr.bipush (v := (-2)) dX10_when_8 (by decide +kernel) (Eq.refl 10) ?_
      refine Tr.iret dX10_when_10 rfl (by first | rfl | exact bI_nar _) ?_ ?_
      · rfl
      · rfl
/-- one chair, two .. -/
def shF (V : Vil) (w : Int32) (l : Bool) (P : Nat → Nat) (L : Nat → Int32) (S : Scn) (a p : Nat) (q : Fmt) : Nat → Fmt
  | 0 => q
  | n + 1 => amS V (-1, nI (n + 1), w, -1, false, l) P L S a p (shF V w l P L S a p q n) (n + 1)
set_option maxHeartbeats 4000000 in
set_option maxRecDepth 100000 in
theorem m_show (E : EnvT) (ad r : Nat → Nat) (i : Nat → Int32) (V : Vil) (w : Int32) (l : Bool) (lg ll : Int32) (W : Nat → Nat) (B f : Nat → Int32) (bp : Nat → Nat) (G : Nat → Int32) (S : Scn) (P : Nat → Nat) (L : Nat → Int32) (a : Nat) (x : Int32) (hV : Vok V) (hS : Sle V S) (hP : Pok V P) (ht : psS S < 2 ^ 29) : Md E mX10_show ad [.ref (ad 0), .int x] (mtJ E ad r i V (w, l, lg, ll, W, B, f, bp, G) (rwF S P L a)) (some (.int (if ixB x (npV V) then nI (shF V w l P L S a (nN x) (-1000000, 1, W, B, f) 4).2.1 else -2))) (mtJ E ad r i V (if ixB x (npV V) then (w, l, lg, ll, (shF V w l P L S a (nN x) (-1000000, 1, W, B, f) 4).2.2.1, (shF V w l P L S a (nN x) (-1000000, 1, W, B, f) 4).2.2.2.1, (shF V w l P L S a (nN x) (-1000000, 1, W, B, f) 4).2.2.2.2, bp, G) else (w, l, lg, ll, W, B, f, bp, G)) (rwF S P L a)) := by
  have v2 := hV.2.1
  by_cases hc : ixB x (npV V) = true
  · rw [if_pos hc, if_pos hc]
    obtain ⟨p, hp, rfl⟩ := ixB_n v2 hc
    rw [nN_n (by omega)]
    show Md E _ ad _ (mtC E ad r i V (-1, -1, w, -1, false, l) lg ll W B f (rwF S P L a) bp G) _ (mtC E ad r i V (-1, -1, w, -1, false, l) lg ll (shF V w l P L S a p (-1000000, 1, W, B, f) 4).2.2.1 (shF V w l P L S a p (-1000000, 1, W, B, f) 4).2.2.2.1 (shF V w l P L S a p (-1000000, 1, W, B, f) 4).2.2.2.2 (rwF S P L a) bp G)
    refine Md.of 3 (by decide) rfl rfl ?_
    refine Tr.aload_n (i := 0) dX10_show_0 rfl rfl (Eq.refl 1) ?_
    refine Tr.iload_n (i := 1) dX10_show_1 rfl rfl (Eq.refl 2) ?_
    refine Tr.callVr (L := [0]) (m_isPerson E _ (rP ad r) (iP V (-1, -1, w, -1, false, l) lg ll i) (nhV V) (npV V) (nI p) v2) dX10_show_2 (kX10_309 (Nat.le_of_ble_eq_true rfl)) iX10_isPerson rfl rfl rfl rfl rfl rfl rfl rfl rfl (Eq.refl 5) ?_
    refine Tr.if_neB (tgt := 11) dX10_show_5 (by decide) (Eq.refl 8) (fun h5 => ?_) (fun h5 => ?_)
    · refine Tr.iconst (v := nI 1) dX10_show_11 (icN 1) (Eq.refl 12) ?_
      refine Tr.istore_n (i := 2) dX10_show_12 rfl rfl rfl (Eq.refl 13) ?_
      refine Tr.ldcw dX10_show_13 qX10_395 (Eq.refl 16) ?_
      refine Tr.istore_n (i := 3) dX10_show_16 rfl rfl rfl (Eq.refl 17) ?_
      refine Tr.aload_n (i := 0) dX10_show_17 rfl rfl (Eq.refl 18) ?_
      refine Tr.iconst (v := nI 1) dX10_show_18 (icN 1) (Eq.refl 19) ?_
      refine Tr.putf dX10_show_19 pX10_228 rfl (rfl) (rfl) rfl (Eq.refl 22) ?_
      skip
      refine Tr.mask [true, true, true, true, true] (lv' := [some (.ref (ad 0)), some (.int (nI p)), some (.int (nI (shF V w l P L S a p (-1000000, 1, W, B, f) 0).2.1)), some (.int (shF V w l P L S a p (-1000000, 1, W, B, f) 0).1), none]) rfl ?_
      refine Tr.pic (w' := (mtC E ad r i V (-1, nI (0 + 1), w, -1, false, l) lg ll (shF V w l P L S a p (-1000000, 1, W, B, f) 0).2.2.1 (shF V w l P L S a p (-1000000, 1, W, B, f) 0).2.2.2.1 (shF V w l P L S a p (-1000000, 1, W, B, f) 0).2.2.2.2 (rwF S P L a) bp G)) rfl ?_
      refine loopD (P := fun j => Tr _ 0 0 22 [some (.ref (ad 0)), some (.int (nI p)), some (.int (nI (shF V w l P L S a p (-1000000, 1, W, B, f) j).2.1)), some (.int (shF V w l P L S a p (-1000000, 1, W, B, f) j).1), none] [] (mtC E ad r i V (-1, nI (j + 1), w, -1, false, l) lg ll (shF V w l P L S a p (-1000000, 1, W, B, f) j).2.2.1 (shF V w l P L S a p (-1000000, 1, W, B, f) j).2.2.2.1 (shF V w l P L S a p (-1000000, 1, W, B, f) j).2.2.2.2 (rwF S P L a) bp G)) 4 ?_ (fun j hj ih => ?_)
      · refine Tr.aload_n (i := 0) dX10_show_22 rfl rfl (Eq.refl 23) ?_
        refine Tr.getf dX10_show_23 fX10_228 rfl rfl (Eq.refl 26) ?_
        refine Tr.iconst (v := nI 4) dX10_show_26 (icN 4) (Eq.refl 27) ?_
        refine Tr.icmp_gtN (tgt := 67) dX10_show_27 (by decide) (Eq.refl 30) (by omega) (by omega) (fun h27 => ?_) (fun h27 => ?_)
        · refine Tr.aload_n (i := 0) dX10_show_67 rfl rfl (Eq.refl 68) ?_
          refine Tr.iconst (v := (-1)) dX10_show_68 (by decide +kernel) (Eq.refl 69) ?_
          refine Tr.putf dX10_show_69 pX10_228 rfl (rfl) (rfl) rfl (Eq.refl 72) ?_
          refine Tr.iload_n (i := 2) dX10_show_72 rfl rfl (Eq.refl 73) ?_
          refine Tr.iret dX10_show_73 rfl (by first | rfl | exact bI_nar _) ?_ ?_
          · rfl
          · rfl
        · exact absurd h27 (by omega)
      · have hu : (shF V w l P L S a p (-1000000, 1, W, B, f) (j + 1)) = amS V (-1, nI (j + 1), w, -1, false, l) P L S a p (shF V w l P L S a p (-1000000, 1, W, B, f) j) (j + 1) := rfl
        rw [hu] at ih
        clear hu
        generalize (shF V w l P L S a p (-1000000, 1, W, B, f) j) = q at *
        obtain ⟨m, b, W1, B1, f1⟩ := q
        rw [amS_e] at ih
        show Tr _ 0 0 22 [some (.ref (ad 0)), some (.int (nI p)), some (.int (nI b)), some (.int m), none] [] (mtC E ad r i V (-1, nI (j + 1), w, -1, false, l) lg ll W1 B1 f1 (rwF S P L a) bp G)
        refine Tr.aload_n (i := 0) dX10_show_22 rfl rfl (Eq.refl 23) ?_
        refine Tr.getf dX10_show_23 fX10_228 rfl rfl (Eq.refl 26) ?_
        refine Tr.iconst (v := nI 4) dX10_show_26 (icN 4) (Eq.refl 27) ?_
        refine Tr.icmp_gtN (tgt := 67) dX10_show_27 (by decide) (Eq.refl 30) (by omega) (by omega) (fun h27 => ?_) (fun h27 => ?_)
        · exact absurd h27 (by omega)
        · refine Tr.aload_n (i := 0) dX10_show_30 rfl rfl (Eq.refl 31) ?_
          refine Tr.iload_n (i := 1) dX10_show_31 rfl rfl (Eq.refl 32) ?_
          refine Tr.callVs (m_sumNow E ad r i V (-1, nI (j + 1), w, -1, false, l) lg ll W1 B1 f1 f bp G S P L a p hV hS hP ht hp) dX10_show_32 (kX10_408 (Nat.le_of_ble_eq_true rfl)) iX10_sumNow rfl rfl rfl rfl rfl (mt_le) rfl rfl (Eq.refl 35) ?_
          refine Tr.istore dX10_show_35 rfl rfl (Eq.refl 37) ?_
          refine Tr.iload dX10_show_37 rfl (Eq.refl 39) ?_
          refine Tr.iload_n (i := 3) dX10_show_39 rfl rfl (Eq.refl 40) ?_
          refine Tr.icmp_gt (tgt := 46) dX10_show_40 (by decide) (Eq.refl 43) (fun h40 => ?_) (fun h40 => ?_)
          · rw [if_pos h40, if_pos h40] at ih
            refine Tr.iload dX10_show_46 rfl (Eq.refl 48) ?_
            refine Tr.istore_n (i := 3) dX10_show_48 rfl rfl rfl (Eq.refl 49) ?_
            refine Tr.aload_n (i := 0) dX10_show_49 rfl rfl (Eq.refl 50) ?_
            refine Tr.getf dX10_show_50 fX10_228 rfl rfl (Eq.refl 53) ?_
            refine Tr.istore_n (i := 2) dX10_show_53 rfl rfl rfl (Eq.refl 54) ?_
            refine Tr.aload_n (i := 0) dX10_show_54 rfl rfl (Eq.refl 55) ?_
            refine Tr.dup dX10_show_55 rfl (Eq.refl 56) ?_
            refine Tr.getf dX10_show_56 fX10_228 rfl rfl (Eq.refl 59) ?_
            refine Tr.iconst (v := nI 1) dX10_show_59 (icN 1) (Eq.refl 60) ?_
            refine Tr.iaddN dX10_show_60 (Eq.refl 61) ?_
            refine Tr.putf dX10_show_61 pX10_228 rfl (rfl) (rfl) rfl (Eq.refl 64) ?_
            refine Tr.goto (pc' := 22) dX10_show_64 (by decide) ?_
            exact Tr.mask [true, true, true, true, false] rfl ih
          · rw [if_neg h40, if_neg h40] at ih
            refine Tr.goto (pc' := 54) dX10_show_43 (by decide) ?_
            refine Tr.aload_n (i := 0) dX10_show_54 rfl rfl (Eq.refl 55) ?_
            refine Tr.dup dX10_show_55 rfl (Eq.refl 56) ?_
            refine Tr.getf dX10_show_56 fX10_228 rfl rfl (Eq.refl 59) ?_
            refine Tr.iconst (v := nI 1) dX10_show_59 (icN 1) (Eq.refl 60) ?_
            refine Tr.iaddN dX10_show_60 (Eq.refl 61) ?_
            refine Tr.putf dX10_show_61 pX10_228 rfl (rfl) (rfl) rfl (Eq.refl 64) ?_
            refine Tr.goto (pc' := 22) dX10_show_64 (by decide) ?_
            exact Tr.mask [true, true, true, true, false] rfl ih
    · exact absurd (hc.symm.trans h5) (by decide)
  · rw [if_neg hc, if_neg hc]
    show Md E _ ad _ (mtC E ad r i V (-1, -1, w, -1, false, l) lg ll W B f (rwF S P L a) bp G) _ (mtC E ad r i V (-1, -1, w, -1, false, l) lg ll W B f (rwF S P L a) bp G)
    refine Md.of 3 (by decide) rfl rfl ?_
    refine Tr.aload_n (i := 0) dX10_show_0 rfl rfl (Eq.refl 1) ?_
    refine Tr.iload_n (i := 1) dX10_show_1 rfl rfl (Eq.refl 2) ?_
    refine Tr.callVr (L := [0]) (m_isPerson E _ (rP ad r) (iP V (-1, -1, w, -1, false, l) lg ll i) (nhV V) (npV V) x v2) dX10_show_2 (kX10_309 (Nat.le_of_ble_eq_true rfl)) iX10_isPerson rfl rfl rfl rfl rfl rfl rfl rfl rfl (Eq.refl 5) ?_
    refine Tr.if_neB (tgt := 11) dX10_show_5 (by decide) (Eq.refl 8) (fun h5 => ?_) (fun h5 => ?_)
    · exact absurd h5 hc
    · refine Tr.bipush (v := (-2)) dX10_show_8 (by decide +kernel) (Eq.refl 10) ?_
      refine Tr.iret dX10_show_10 rfl (by first | rfl | exact bI_nar _) ?_ ?_
      · rfl
      · rfl
/-- lets by sets -/
def wmS (V : Vil) (o : Ovr) (P : Nat → Nat) (L : Nat → Int32) (S : Scn) (a p : Nat) (q : Fmt) (n : Nat) : Fmt := if bt (nI n) p then q else amS V o P (upd L p (nI n)) S a p q n
def wmF (V : Vil) (o : Ovr) (P : Nat → Nat) (L : Nat → Int32) (S : Scn) (a p : Nat) (q : Fmt) : Nat → Fmt
  | 0 => q
  | n + 1 => wmS V o P L S a p (wmF V o P L S a p q n) n
set_option maxHeartbeats 4000000 in
set_option maxRecDepth 100000 in
theorem m_whom (E : EnvT) (ad r : Nat → Nat) (i : Nat → Int32) (V : Vil) (w : Int32) (l : Bool) (lg ll : Int32) (W : Nat → Nat) (B f : Nat → Int32) (bp : Nat → Nat) (G : Nat → Int32) (S : Scn) (P : Nat → Nat) (L : Nat → Int32) (a : Nat) (x : Int32) (hV : Vok V) (hS : Sle V S) (hP : Pok V P) (ht : psS S < 2 ^ 29) : Md E mX10_whom ad [.ref (ad 0), .int x] (mtJ E ad r i V (w, l, lg, ll, W, B, f, bp, G) (rwF S P L a)) (some (.int (if ixB x (npV V) then nI (wmF V (-1, -1, w, -1, false, l) P L S a (nN x) (-1000000, 0, W, B, f) (2 ^ npV V)).2.1 else -2))) (mtJ E ad r i V (if ixB x (npV V) then (w, l, lg, ll, (wmF V (-1, -1, w, -1, false, l) P L S a (nN x) (-1000000, 0, W, B, f) (2 ^ npV V)).2.2.1, (wmF V (-1, -1, w, -1, false, l) P L S a (nN x) (-1000000, 0, W, B, f) (2 ^ npV V)).2.2.2.1, (wmF V (-1, -1, w, -1, false, l) P L S a (nN x) (-1000000, 0, W, B, f) (2 ^ npV V)).2.2.2.2, bp, G) else (w, l, lg, ll, W, B, f, bp, G)) (rwF S P L a)) := by
  have v2 := hV.2.1
  have h2 : 2 ^ npV V ≤ 32 := two5 v2
  by_cases hc : ixB x (npV V) = true
  · rw [if_pos hc, if_pos hc]
    obtain ⟨p, hp, rfl⟩ := ixB_n v2 hc
    rw [nN_n (by omega)]
    show Md E _ ad _ (mtC E ad r i V (-1, -1, w, -1, false, l) lg ll W B f (rwF S P L a) bp G) _ (mtC E ad r i V (-1, -1, w, -1, false, l) lg ll (wmF V (-1, -1, w, -1, false, l) P L S a p (-1000000, 0, W, B, f) (2 ^ npV V)).2.2.1 (wmF V (-1, -1, w, -1, false, l) P L S a p (-1000000, 0, W, B, f) (2 ^ npV V)).2.2.2.1 (wmF V (-1, -1, w, -1, false, l) P L S a p (-1000000, 0, W, B, f) (2 ^ npV V)).2.2.2.2 (rwF S P L a) bp G)
    refine Md.of 4 (by decide) rfl rfl ?_
    refine Tr.aload_n (i := 0) dX10_whom_0 rfl rfl (Eq.refl 1) ?_
    refine Tr.iload_n (i := 1) dX10_whom_1 rfl rfl (Eq.refl 2) ?_
    refine Tr.callVr (L := [0]) (m_isPerson E _ (rP ad r) (iP V (-1, -1, w, -1, false, l) lg ll i) (nhV V) (npV V) (nI p) v2) dX10_whom_2 (kX10_309 (Nat.le_of_ble_eq_true rfl)) iX10_isPerson rfl rfl rfl rfl rfl rfl rfl rfl rfl (Eq.refl 5) ?_
    refine Tr.if_neB (tgt := 11) dX10_whom_5 (by decide) (Eq.refl 8) (fun h5 => ?_) (fun h5 => ?_)
    · refine Tr.iconst (v := nI 0) dX10_whom_11 (icN 0) (Eq.refl 12) ?_
      refine Tr.istore_n (i := 2) dX10_whom_12 rfl rfl rfl (Eq.refl 13) ?_
      refine Tr.ldcw dX10_whom_13 qX10_395 (Eq.refl 16) ?_
      refine Tr.istore_n (i := 3) dX10_whom_16 rfl rfl rfl (Eq.refl 17) ?_
      refine Tr.iconst (v := nI 0) dX10_whom_17 (icN 0) (Eq.refl 18) ?_
      refine Tr.istore dX10_whom_18 rfl rfl (Eq.refl 20) ?_
      skip
      refine Tr.mask [true, true, true, true, true, true] (lv' := [some (.ref (ad 0)), some (.int (nI p)), some (.int (nI (wmF V (-1, -1, w, -1, false, l) P L S a p (-1000000, 0, W, B, f) 0).2.1)), some (.int (wmF V (-1, -1, w, -1, false, l) P L S a p (-1000000, 0, W, B, f) 0).1), some (.int (nI 0)), none]) rfl ?_
      refine Tr.pic (w' := (mtC E ad r i V (-1, -1, w, -1, false, l) lg ll (wmF V (-1, -1, w, -1, false, l) P L S a p (-1000000, 0, W, B, f) 0).2.2.1 (wmF V (-1, -1, w, -1, false, l) P L S a p (-1000000, 0, W, B, f) 0).2.2.2.1 (wmF V (-1, -1, w, -1, false, l) P L S a p (-1000000, 0, W, B, f) 0).2.2.2.2 (rwF S P L a) bp G)) rfl ?_
      refine loopD (P := fun j => Tr _ 0 0 20 [some (.ref (ad 0)), some (.int (nI p)), some (.int (nI (wmF V (-1, -1, w, -1, false, l) P L S a p (-1000000, 0, W, B, f) j).2.1)), some (.int (wmF V (-1, -1, w, -1, false, l) P L S a p (-1000000, 0, W, B, f) j).1), some (.int (nI j)), none] [] (mtC E ad r i V (-1, -1, w, -1, false, l) lg ll (wmF V (-1, -1, w, -1, false, l) P L S a p (-1000000, 0, W, B, f) j).2.2.1 (wmF V (-1, -1, w, -1, false, l) P L S a p (-1000000, 0, W, B, f) j).2.2.2.1 (wmF V (-1, -1, w, -1, false, l) P L S a p (-1000000, 0, W, B, f) j).2.2.2.2 (rwF S P L a) bp G)) (2 ^ npV V) ?_ (fun j hj ih => ?_)
      · refine Tr.iload dX10_whom_20 rfl (Eq.refl 22) ?_
        refine Tr.iconst (v := nI 1) dX10_whom_22 (icN 1) (Eq.refl 23) ?_
        refine Tr.aload_n (i := 0) dX10_whom_23 rfl rfl (Eq.refl 24) ?_
        refine Tr.getf dX10_whom_24 fX10_285 rfl rfl (Eq.refl 27) ?_
        refine Tr.ishl dX10_whom_27 (Eq.refl 28) ?_
        rw [shl1 v2]
        refine Tr.icmp_geN (tgt := 87) dX10_whom_28 (by decide) (Eq.refl 31) (by omega) (by omega) (fun h28 => ?_) (fun h28 => ?_)
        · refine Tr.iload_n (i := 2) dX10_whom_87 rfl rfl (Eq.refl 88) ?_
          refine Tr.iret dX10_whom_88 rfl (by first | rfl | exact bI_nar _) ?_ ?_
          · rfl
          · rfl
        · exact absurd h28 (by omega)
      · have hu : (wmF V (-1, -1, w, -1, false, l) P L S a p (-1000000, 0, W, B, f) (j + 1)) = if bt (nI j) p then (wmF V (-1, -1, w, -1, false, l) P L S a p (-1000000, 0, W, B, f) j) else amS V (-1, -1, w, -1, false, l) P (upd L p (nI j)) S a p (wmF V (-1, -1, w, -1, false, l) P L S a p (-1000000, 0, W, B, f) j) j := rfl
        rw [hu] at ih
        clear hu
        generalize (wmF V (-1, -1, w, -1, false, l) P L S a p (-1000000, 0, W, B, f) j) = q at *
        obtain ⟨m, b, W1, B1, f1⟩ := q
        rw [amS_e] at ih
        show Tr _ 0 0 20 [some (.ref (ad 0)), some (.int (nI p)), some (.int (nI b)), some (.int m), some (.int (nI j)), none] [] (mtC E ad r i V (-1, -1, w, -1, false, l) lg ll W1 B1 f1 (rwF S P L a) bp G)
        refine Tr.iload dX10_whom_20 rfl (Eq.refl 22) ?_
        refine Tr.iconst (v := nI 1) dX10_whom_22 (icN 1) (Eq.refl 23) ?_
        refine Tr.aload_n (i := 0) dX10_whom_23 rfl rfl (Eq.refl 24) ?_
        refine Tr.getf dX10_whom_24 fX10_285 rfl rfl (Eq.refl 27) ?_
        refine Tr.ishl dX10_whom_27 (Eq.refl 28) ?_
        rw [shl1 v2]
        refine Tr.icmp_geN (tgt := 87) dX10_whom_28 (by decide) (Eq.refl 31) (by omega) (by omega) (fun h28 => ?_) (fun h28 => ?_)
        · exact absurd h28 (by omega)
        · refine Tr.iload dX10_whom_31 rfl (Eq.refl 33) ?_
          refine Tr.iload_n (i := 1) dX10_whom_33 rfl rfl (Eq.refl 34) ?_
          refine Tr.ishr dX10_whom_34 (Eq.refl 35) ?_
          refine Tr.iconst (v := nI 1) dX10_whom_35 (icN 1) (Eq.refl 36) ?_
          refine Tr.iand dX10_whom_36 (Eq.refl 37) ?_
          refine Tr.iconst (v := nI 1) dX10_whom_37 (icN 1) (Eq.refl 38) ?_
          refine Tr.icmp_ne (tgt := 44) dX10_whom_38 (by decide) (Eq.refl 41) (fun h38 => ?_) (fun h38 => ?_)
          · rw [if_neg (show ¬ bt (nI j) p = true by simp [bt, h38])] at ih
            refine Tr.aload_n (i := 0) dX10_whom_44 rfl rfl (Eq.refl 45) ?_
            refine Tr.callVs (m_copyNow E ad r i V (-1, -1, w, -1, false, l) lg ll W1 B1 f1 _ bp G) dX10_whom_45 (kX10_402 (Nat.le_of_ble_eq_true rfl)) iX10_copyNow rfl rfl rfl rfl rfl (mt_le) rfl rfl (Eq.refl 48) ?_
            refine Tr.aload_n (i := 0) dX10_whom_48 rfl rfl (Eq.refl 49) ?_
            refine Tr.getf dX10_whom_49 fX10_222 rfl rfl (Eq.refl 52) ?_
            refine Tr.bipush (v := nI 30) dX10_whom_52 (by decide +kernel) (Eq.refl 54) ?_
            refine Tr.iload_n (i := 1) dX10_whom_54 rfl rfl (Eq.refl 55) ?_
            refine Tr.iaddN dX10_whom_55 (Eq.refl 56) ?_
            refine Tr.iload dX10_whom_56 rfl (Eq.refl 58) ?_
            refine Tr.iastN dX10_whom_58 rfl (by omega) (by decide) (Eq.refl 59) ?_
            refine Tr.pic (mt_lt (by omega)) ?_
            refine Tr.aload_n (i := 0) dX10_whom_59 rfl rfl (Eq.refl 60) ?_
            refine Tr.iload_n (i := 1) dX10_whom_60 rfl rfl (Eq.refl 61) ?_
            refine Tr.callVs (m_sumOf E ad r i V (-1, -1, w, -1, false, l) lg ll W1 B1 _ bp G S P (upd L p (nI j)) a p hV hS hP ht hp) dX10_whom_61 (kX10_405 (Nat.le_of_ble_eq_true rfl)) iX10_sumOf rfl rfl rfl rfl rfl (mt_le) rfl rfl (Eq.refl 64) ?_
            refine Tr.istore dX10_whom_64 rfl rfl (Eq.refl 66) ?_
            refine Tr.iload dX10_whom_66 rfl (Eq.refl 68) ?_
            refine Tr.iload_n (i := 3) dX10_whom_68 rfl rfl (Eq.refl 69) ?_
            refine Tr.icmp_gt (tgt := 75) dX10_whom_69 (by decide) (Eq.refl 72) (fun h69 => ?_) (fun h69 => ?_)
            · rw [if_pos h69, if_pos h69] at ih
              refine Tr.iload dX10_whom_75 rfl (Eq.refl 77) ?_
              refine Tr.istore_n (i := 3) dX10_whom_77 rfl rfl rfl (Eq.refl 78) ?_
              refine Tr.iload dX10_whom_78 rfl (Eq.refl 80) ?_
              refine Tr.istore_n (i := 2) dX10_whom_80 rfl rfl rfl (Eq.refl 81) ?_
              refine Tr.iincN dX10_whom_81 rfl rfl rfl (Eq.refl 84) ?_
              refine Tr.goto (pc' := 20) dX10_whom_84 (by decide) ?_
              exact Tr.mask [true, true, true, true, true, false] rfl ih
            · rw [if_neg h69, if_neg h69] at ih
              refine Tr.goto (pc' := 81) dX10_whom_72 (by decide) ?_
              refine Tr.iincN dX10_whom_81 rfl rfl rfl (Eq.refl 84) ?_
              refine Tr.goto (pc' := 20) dX10_whom_84 (by decide) ?_
              exact Tr.mask [true, true, true, true, true, false] rfl ih
          · rw [if_pos (show bt (nI j) p = true by simp [bt, h38])] at ih
            refine Tr.goto (pc' := 81) dX10_whom_41 (by decide) ?_
            refine Tr.iincN dX10_whom_81 rfl rfl rfl (Eq.refl 84) ?_
            refine Tr.goto (pc' := 20) dX10_whom_84 (by decide) ?_
            exact Tr.mask [true, true, true, true, true, false] rfl ih
    · exact absurd (hc.symm.trans h5) (by decide)
  · rw [if_neg hc, if_neg hc]
    show Md E _ ad _ (mtC E ad r i V (-1, -1, w, -1, false, l) lg ll W B f (rwF S P L a) bp G) _ (mtC E ad r i V (-1, -1, w, -1, false, l) lg ll W B f (rwF S P L a) bp G)
    refine Md.of 4 (by decide) rfl rfl ?_
    refine Tr.aload_n (i := 0) dX10_whom_0 rfl rfl (Eq.refl 1) ?_
    refine Tr.iload_n (i := 1) dX10_whom_1 rfl rfl (Eq.refl 2) ?_
    refine Tr.callVr (L := [0]) (m_isPerson E _ (rP ad r) (iP V (-1, -1, w, -1, false, l) lg ll i) (nhV V) (npV V) x v2) dX10_whom_2 (kX10_309 (Nat.le_of_ble_eq_true rfl)) iX10_isPerson rfl rfl rfl rfl rfl rfl rfl rfl rfl (Eq.refl 5) ?_
    refine Tr.if_neB (tgt := 11) dX10_whom_5 (by decide) (Eq.refl 8) (fun h5 => ?_) (fun h5 => ?_)
    · exact absurd h5 hc
    · refine Tr.bipush (v := (-2)) dX10_whom_8 (by decide +kernel) (Eq.refl 10) ?_
      refine Tr.iret dX10_whom_10 rfl (by first | rfl | exact bI_nar _) ?_ ?_
      · rfl
      · rfl
