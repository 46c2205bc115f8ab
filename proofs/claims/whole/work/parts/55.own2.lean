/-! OwnedByGuests: rests, settling, guards, rings, bounds, laws, edges -/
theorem rgB_f {x a b : Int32} (h : rgB x a b = true) : ¬ x < a ∧ ¬ b < x := by
  unfold rgB at h
  have h9 := Bool.and_eq_true_iff.mp h
  refine ⟨fun z9 => ?_, fun z9 => ?_⟩
  · rw [decide_eq_true z9] at h9; exact absurd h9.1 (by decide)
  · rw [decide_eq_true z9] at h9; exact absurd h9.2 (by decide)
set_option maxHeartbeats 4000000 in
set_option maxRecDepth 100000 in
theorem x_bound (E : EnvT) (ad r : Nat → Nat) (hf : Int32) (T : Tst) (V : Vil) (X : Vix) (S : Scn) (P : Nat → Nat) (L : Nat → Int32) (a : Nat) (kp : Bool) (W : Nat → Nat) (x y : Int32) (hV : Vok V) (hS : Sle V S) (hP : Ple P) (ht : psS S < 2 ^ 30) : Md E mX9_bound ad [.ref (ad 0), .int x, .int y] (xtC E ad r hf T V X S P L a kp W) (some (.int (if (ixB x (npV V) && rgB y (-1000) (nI 9999)) then (leF (nN x) y 29 0 (stT T V P L S)).2 else -2))) (xtC E ad r hf (if (ixB x (npV V) && rgB y (-1000) (nI 9999)) then (leF (nN x) y 29 0 (stT T V P L S)).1 else T) V X S P L a kp W) := by
  have v1 := hV.1
  have v2 := hV.2.1
  have hT : Tok (stT T V P L S) := stT_ok hV hS hP ht
  by_cases hc : (ixB x (npV V) && rgB y (-1000) (nI 9999)) = true
  · rw [if_pos hc, if_pos hc]
    have hc1 : ixB x (npV V) = true := (Bool.and_eq_true_iff.mp hc).1
    have hc2 : rgB y (-1000) (nI 9999) = true := (Bool.and_eq_true_iff.mp hc).2
    obtain ⟨hy1, hy2⟩ := rgB_f hc2
    obtain ⟨p, hp, rfl⟩ := ixB_n v2 hc1
    rw [nN_n (show p < 2 ^ 31 by omega)]
    have eV : vT (stT T V P L S) = V := rfl
    refine Md.of 0 (by decide) rfl rfl ?_
    refine Tr.aload_n (i := 0) dX9_bound_0 rfl rfl (Eq.refl 1) ?_
    refine Tr.iload_n (i := 1) dX9_bound_1 rfl rfl (Eq.refl 2) ?_
    refine Tr.callVr (L := [0, 72, 73, 74, 75, 76, 77, 78, 79, 80, 81, 82]) (x_isPerson E _ (rV ad r) hf V X (nI p)) dX9_bound_2 (kX9_134 (Nat.le_of_ble_eq_true rfl)) iX9_isPerson rfl rfl rfl rfl rfl rfl rfl rfl rfl (Eq.refl 5) ?_
    refine Tr.if_eqB (tgt := 22) dX9_bound_5 (by decide) (Eq.refl 8) (fun h5 => ?_) (fun h5 => ?_)
    · exact absurd (hc1.symm.trans h5) (by decide)
    · refine Tr.iload_n (i := 2) dX9_bound_8 rfl rfl (Eq.refl 9) ?_
      refine Tr.sipush (v := (-1000)) dX9_bound_9 (by decide +kernel) (Eq.refl 12) ?_
      refine Tr.icmp_lt (tgt := 22) dX9_bound_12 (by decide) (Eq.refl 15) (fun h12 => ?_) (fun h12 => ?_)
      · exact absurd h12 hy1
      · refine Tr.iload_n (i := 2) dX9_bound_15 rfl rfl (Eq.refl 16) ?_
        refine Tr.sipush (v := nI 9999) dX9_bound_16 (by decide +kernel) (Eq.refl 19) ?_
        refine Tr.icmp_leL (tgt := 25) dX9_bound_19 (by decide) (Eq.refl 22) (fun h19 => ?_) (fun h19 => ?_)
        · refine Tr.aload_n (i := 0) dX9_bound_25 rfl rfl (Eq.refl 26) ?_
          refine Tr.getf dX9_bound_26 fX9_46 rfl rfl (Eq.refl 29) ?_
          refine Tr.aload_n (i := 0) dX9_bound_29 rfl rfl (Eq.refl 30) ?_
          refine Tr.getf dX9_bound_30 fX9_28 rfl rfl (Eq.refl 33) ?_
          refine Tr.aload_n (i := 0) dX9_bound_33 rfl rfl (Eq.refl 34) ?_
          refine Tr.getf dX9_bound_34 fX9_35 rfl rfl (Eq.refl 37) ?_
          refine Tr.callV (L := l_so) (Md.refs 29 (fun k => some (ad (1 + 36 + 7 * k))) (c_setOut E _ T V X S P L a kp W) rfl rfl (dyS ad)) dX9_bound_37 (kX9_213 (Nat.le_of_ble_eq_true rfl)) iX6_setOut rfl rfl rfl rfl rfl rfl rfl rfl rfl rfl (Eq.refl 40) ?_
          refine Tr.pic (w' := xtC E ad r hf (stT T V P L S) V X S P L a kp W) (putB_eq (Lc := [0]) 95 rfl rfl rfl rfl ⟨⟨_, rfl, rfl⟩, trivial⟩ (by decide) rfl) ?_
          generalize (stT T V P L S) = T2 at *
          refine Tr.aload_n (i := 0) dX9_bound_40 rfl rfl (Eq.refl 41) ?_
          refine Tr.getf dX9_bound_41 fX9_46 rfl rfl (Eq.refl 44) ?_
          refine Tr.iload_n (i := 1) dX9_bound_44 rfl rfl (Eq.refl 45) ?_
          refine Tr.iload_n (i := 2) dX9_bound_45 rfl rfl (Eq.refl 46) ?_
          refine Tr.callV (L := l_tr) (Md.refs 29 (fun k => some (ad (1 + 36 + 7 * k))) (c_leastAfter E _ T2 p y hT (by rw [eV]; exact hp)) rfl rfl (dyT ad)) dX9_bound_46 (kX9_262 (Nat.le_of_ble_eq_true rfl)) iX6_leastAfter rfl rfl rfl rfl rfl rfl rfl rfl rfl rfl (Eq.refl 49) ?_
          refine Tr.pic (w' := xtC E ad r hf (leF p y 29 0 T2).1 V X S P L a kp W) (putB_eq (Lc := [0, 72, 73, 74, 75, 76, 77, 78, 79, 80, 81, 82, 83, 84, 85, 86, 87, 88, 89, 90, 91, 92, 93, 94]) 95 rfl rfl rfl rfl ⟨⟨_, rfl, rfl⟩, ⟨_, rfl, rfl⟩, ⟨_, rfl, rfl⟩, ⟨_, rfl, rfl⟩, ⟨_, rfl, rfl⟩, ⟨_, rfl, rfl⟩, ⟨_, rfl, rfl⟩, ⟨_, rfl, rfl⟩, ⟨_, rfl, rfl⟩, ⟨_, rfl, rfl⟩, ⟨_, rfl, rfl⟩, ⟨_, rfl, rfl⟩, ⟨_, rfl, rfl⟩, ⟨_, rfl, rfl⟩, ⟨_, rfl, rfl⟩, ⟨_, rfl, rfl⟩, ⟨_, rfl, rfl⟩, ⟨_, rfl, rfl⟩, ⟨_, rfl, rfl⟩, ⟨_, rfl, rfl⟩, ⟨_, rfl, rfl⟩, ⟨_, rfl, rfl⟩, ⟨_, rfl, rfl⟩, ⟨_, rfl, rfl⟩, trivial⟩ (by decide) rfl) ?_
          refine Tr.iret dX9_bound_49 rfl (by first | rfl | exact bI_nar _) ?_ ?_
          · rfl
          · rfl
        · exact absurd h19 hy2
  · rw [if_neg hc, if_neg hc]
    refine Md.of 0 (by decide) rfl rfl ?_
    refine Tr.aload_n (i := 0) dX9_bound_0 rfl rfl (Eq.refl 1) ?_
    refine Tr.iload_n (i := 1) dX9_bound_1 rfl rfl (Eq.refl 2) ?_
    refine Tr.callVr (L := [0, 72, 73, 74, 75, 76, 77, 78, 79, 80, 81, 82]) (x_isPerson E _ (rV ad r) hf V X x) dX9_bound_2 (kX9_134 (Nat.le_of_ble_eq_true rfl)) iX9_isPerson rfl rfl rfl rfl rfl rfl rfl rfl rfl (Eq.refl 5) ?_
    refine Tr.if_eqB (tgt := 22) dX9_bound_5 (by decide) (Eq.refl 8) (fun h5 => ?_) (fun h5 => ?_)
    · refine Tr.bipush (v := (-2)) dX9_bound_22 (by decide +kernel) (Eq.refl 24) ?_
      refine Tr.iret dX9_bound_24 rfl (by first | rfl | exact bI_nar _) ?_ ?_
      · rfl
      · rfl
    · refine Tr.iload_n (i := 2) dX9_bound_8 rfl rfl (Eq.refl 9) ?_
      refine Tr.sipush (v := (-1000)) dX9_bound_9 (by decide +kernel) (Eq.refl 12) ?_
      refine Tr.icmp_lt (tgt := 22) dX9_bound_12 (by decide) (Eq.refl 15) (fun h12 => ?_) (fun h12 => ?_)
      · refine Tr.bipush (v := (-2)) dX9_bound_22 (by decide +kernel) (Eq.refl 24) ?_
        refine Tr.iret dX9_bound_24 rfl (by first | rfl | exact bI_nar _) ?_ ?_
        · rfl
        · rfl
      · refine Tr.iload_n (i := 2) dX9_bound_15 rfl rfl (Eq.refl 16) ?_
        refine Tr.sipush (v := nI 9999) dX9_bound_16 (by decide +kernel) (Eq.refl 19) ?_
        refine Tr.icmp_leL (tgt := 25) dX9_bound_19 (by decide) (Eq.refl 22) (fun h19 => ?_) (fun h19 => ?_)
        · exact absurd (by rw [h5, rgB_t (a := -1000) (b := nI 9999) h12 h19]; rfl) hc
        · refine Tr.bipush (v := (-2)) dX9_bound_22 (by decide +kernel) (Eq.refl 24) ?_
          refine Tr.iret dX9_bound_24 rfl (by first | rfl | exact bI_nar _) ?_ ?_
          · rfl
          · rfl
set_option maxHeartbeats 4000000 in
set_option maxRecDepth 100000 in
theorem x_bestLaw (E : EnvT) (ad r : Nat → Nat) (hf : Int32) (T : Tst) (V : Vil) (X : Vix) (S : Scn) (P : Nat → Nat) (L : Nat → Int32) (a : Nat) (kp : Bool) (W : Nat → Nat) (x : Int32) (hV : Vok V) (hS : Sle V S) (hP : Ple P) (ht : psS S < 2 ^ 30) : Md E mX9_bestLaw ad [.ref (ad 0), .int x] (xtC E ad r hf T V X S P L a kp W) (some (.int (if rgB x (nI 1) (nI 20) then nI (glA (nN x) (stT T V P L S) 2).2.2 else -2))) (xtC E ad r hf (if rgB x (nI 1) (nI 20) then (glA (nN x) (stT T V P L S) 2).1 else T) V X S P L a kp W) := by
  have v1 := hV.1
  have v2 := hV.2.1
  have hT : Tok (stT T V P L S) := stT_ok hV hS hP ht
  by_cases hc : rgB x (nI 1) (nI 20) = true
  · rw [if_pos hc, if_pos hc]
    obtain ⟨d, hd1, hd, rfl⟩ := rgB_n (by decide) (by decide) hc
    rw [nN_n (show d < 2 ^ 31 by omega)]
    have eV : vT (stT T V P L S) = V := rfl
    refine Md.of 0 (by decide) rfl rfl ?_
    refine Tr.iload_n (i := 1) dX9_bestLaw_0 rfl rfl (Eq.refl 1) ?_
    refine Tr.iconst (v := nI 1) dX9_bestLaw_1 (icN 1) (Eq.refl 2) ?_
    refine Tr.icmp_ltN (tgt := 11) dX9_bestLaw_2 (by decide) (Eq.refl 5) (by omega) (by omega) (fun h2 => ?_) (fun h2 => ?_)
    · exact absurd h2 (by omega)
    · refine Tr.iload_n (i := 1) dX9_bestLaw_5 rfl rfl (Eq.refl 6) ?_
      refine Tr.bipush (v := nI 20) dX9_bestLaw_6 (by decide +kernel) (Eq.refl 8) ?_
      refine Tr.icmp_leN (tgt := 14) dX9_bestLaw_8 (by decide) (Eq.refl 11) (by omega) (by omega) (fun h8 => ?_) (fun h8 => ?_)
      · refine Tr.aload_n (i := 0) dX9_bestLaw_14 rfl rfl (Eq.refl 15) ?_
        refine Tr.getf dX9_bestLaw_15 fX9_46 rfl rfl (Eq.refl 18) ?_
        refine Tr.aload_n (i := 0) dX9_bestLaw_18 rfl rfl (Eq.refl 19) ?_
        refine Tr.getf dX9_bestLaw_19 fX9_28 rfl rfl (Eq.refl 22) ?_
        refine Tr.aload_n (i := 0) dX9_bestLaw_22 rfl rfl (Eq.refl 23) ?_
        refine Tr.getf dX9_bestLaw_23 fX9_35 rfl rfl (Eq.refl 26) ?_
        refine Tr.callV (L := l_so) (Md.refs 29 (fun k => some (ad (1 + 36 + 7 * k))) (c_setOut E _ T V X S P L a kp W) rfl rfl (dyS ad)) dX9_bestLaw_26 (kX9_213 (Nat.le_of_ble_eq_true rfl)) iX6_setOut rfl rfl rfl rfl rfl rfl rfl rfl rfl rfl (Eq.refl 29) ?_
        refine Tr.pic (w' := xtC E ad r hf (stT T V P L S) V X S P L a kp W) (putB_eq (Lc := [0]) 95 rfl rfl rfl rfl ⟨⟨_, rfl, rfl⟩, trivial⟩ (by decide) rfl) ?_
        generalize (stT T V P L S) = T2 at *
        refine Tr.aload_n (i := 0) dX9_bestLaw_29 rfl rfl (Eq.refl 30) ?_
        refine Tr.getf dX9_bestLaw_30 fX9_46 rfl rfl (Eq.refl 33) ?_
        refine Tr.iload_n (i := 1) dX9_bestLaw_33 rfl rfl (Eq.refl 34) ?_
        refine Tr.callV (L := l_tr) (Md.refs 29 (fun k => some (ad (1 + 36 + 7 * k))) (c_greatestLaw E _ T2 d hT (by omega)) rfl rfl (dyT ad)) dX9_bestLaw_34 (kX9_275 (Nat.le_of_ble_eq_true rfl)) iX6_greatestLaw rfl rfl rfl rfl rfl rfl rfl rfl rfl rfl (Eq.refl 37) ?_
        refine Tr.pic (w' := xtC E ad r hf (glA d T2 2).1 V X S P L a kp W) (putB_eq (Lc := [0, 72, 73, 74, 75, 76, 77, 78, 79, 80, 81, 82, 83, 84, 85, 86, 87, 88, 89, 90, 91, 92, 93, 94]) 95 rfl rfl rfl rfl ⟨⟨_, rfl, rfl⟩, ⟨_, rfl, rfl⟩, ⟨_, rfl, rfl⟩, ⟨_, rfl, rfl⟩, ⟨_, rfl, rfl⟩, ⟨_, rfl, rfl⟩, ⟨_, rfl, rfl⟩, ⟨_, rfl, rfl⟩, ⟨_, rfl, rfl⟩, ⟨_, rfl, rfl⟩, ⟨_, rfl, rfl⟩, ⟨_, rfl, rfl⟩, ⟨_, rfl, rfl⟩, ⟨_, rfl, rfl⟩, ⟨_, rfl, rfl⟩, ⟨_, rfl, rfl⟩, ⟨_, rfl, rfl⟩, ⟨_, rfl, rfl⟩, ⟨_, rfl, rfl⟩, ⟨_, rfl, rfl⟩, ⟨_, rfl, rfl⟩, ⟨_, rfl, rfl⟩, ⟨_, rfl, rfl⟩, ⟨_, rfl, rfl⟩, trivial⟩ (by decide) rfl) ?_
        refine Tr.iret dX9_bestLaw_37 rfl (by first | rfl | exact bI_nar _) ?_ ?_
        · rfl
        · rfl
      · exact absurd h8 (by omega)
  · rw [if_neg hc, if_neg hc]
    refine Md.of 0 (by decide) rfl rfl ?_
    refine Tr.iload_n (i := 1) dX9_bestLaw_0 rfl rfl (Eq.refl 1) ?_
    refine Tr.iconst (v := nI 1) dX9_bestLaw_1 (icN 1) (Eq.refl 2) ?_
    refine Tr.icmp_lt (tgt := 11) dX9_bestLaw_2 (by decide) (Eq.refl 5) (fun h2 => ?_) (fun h2 => ?_)
    · refine Tr.bipush (v := (-2)) dX9_bestLaw_11 (by decide +kernel) (Eq.refl 13) ?_
      refine Tr.iret dX9_bestLaw_13 rfl (by first | rfl | exact bI_nar _) ?_ ?_
      · rfl
      · rfl
    · refine Tr.iload_n (i := 1) dX9_bestLaw_5 rfl rfl (Eq.refl 6) ?_
      refine Tr.bipush (v := nI 20) dX9_bestLaw_6 (by decide +kernel) (Eq.refl 8) ?_
      refine Tr.icmp_leL (tgt := 14) dX9_bestLaw_8 (by decide) (Eq.refl 11) (fun h8 => ?_) (fun h8 => ?_)
      · exact absurd (rgB_t (a := nI 1) (b := nI 20) h2 h8) hc
      · refine Tr.bipush (v := (-2)) dX9_bestLaw_11 (by decide +kernel) (Eq.refl 13) ?_
        refine Tr.iret dX9_bestLaw_13 rfl (by first | rfl | exact bI_nar _) ?_ ?_
        · rfl
        · rfl
set_option maxHeartbeats 4000000 in
set_option maxRecDepth 100000 in
theorem x_law (E : EnvT) (ad r : Nat → Nat) (hf : Int32) (T : Tst) (V : Vil) (X : Vix) (S : Scn) (P : Nat → Nat) (L : Nat → Int32) (a : Nat) (kp : Bool) (W : Nat → Nat) (b : Bool) (x y z : Int32) (hV : Vok V) (hS : Sle V S) (hP : Ple P) (ht : psS S < 2 ^ 30) : Md E mX9_law ad [.ref (ad 0), .int (bI b), .int x, .int y, .int z] (xtC E ad r hf T V X S P L a kp W) (some (.int (if (rgB x (nI 0) (nI 28) && rgB y (nI 1) (nI 20) && rgB z (nI 0) (nI 1)) then (if z = nI 0 then gaF (rqT (lwT (stT T V P L S) b (nN x)) ((nN y) * 4)) (npV V) else slF (rqT (lwT (stT T V P L S) b (nN x)) ((nN y) * 4)) (nhV V)) else -1000000))) (xtC E ad r hf (if (rgB x (nI 0) (nI 28) && rgB y (nI 1) (nI 20) && rgB z (nI 0) (nI 1)) then (rqT (lwT (stT T V P L S) b (nN x)) ((nN y) * 4)) else T) V X S P L a kp W) := by
  have v1 := hV.1
  have v2 := hV.2.1
  have hT : Tok (stT T V P L S) := stT_ok hV hS hP ht
  by_cases hc : (rgB x (nI 0) (nI 28) && rgB y (nI 1) (nI 20) && rgB z (nI 0) (nI 1)) = true
  · rw [if_pos hc, if_pos hc]
    have hc0 := Bool.and_eq_true_iff.mp hc
    have hc1 : rgB x (nI 0) (nI 28) = true := (Bool.and_eq_true_iff.mp hc0.1).1
    have hc2 : rgB y (nI 1) (nI 20) = true := (Bool.and_eq_true_iff.mp hc0.1).2
    have hc3 : rgB z (nI 0) (nI 1) = true := hc0.2
    obtain ⟨c, -, hcl, rfl⟩ := rgB_n (by decide) (by decide) hc1
    obtain ⟨d, hd1, hd, rfl⟩ := rgB_n (by decide) (by decide) hc2
    obtain ⟨k, -, hk, rfl⟩ := rgB_n (by decide) (by decide) hc3
    rw [nN_n (show c < 2 ^ 31 by omega), nN_n (show d < 2 ^ 31 by omega)]
    have hV3 : Vok (vT (rqT (lwT (stT T V P L S) b c) (d * 4))) := hV
    have en3 : npV (vT (rqT (lwT (stT T V P L S) b c) (d * 4))) = npV V := rfl
    have eh3 : nhV (vT (rqT (lwT (stT T V P L S) b c) (d * 4))) = nhV V := rfl
    have eV : vT (stT T V P L S) = V := rfl
    refine Md.of 0 (by decide) rfl rfl ?_
    refine Tr.iload_n (i := 2) dX9_law_0 rfl rfl (Eq.refl 1) ?_
    refine Tr.if_lt (tgt := 32) dX9_law_1 (by decide) (Eq.refl 4) (fun h1 => ?_) (fun h1 => ?_)
    · exact absurd h1 (nI_nneg (by omega))
    · refine Tr.iload_n (i := 2) dX9_law_4 rfl rfl (Eq.refl 5) ?_
      refine Tr.bipush (v := nI 28) dX9_law_5 (by decide +kernel) (Eq.refl 7) ?_
      refine Tr.icmp_gtN (tgt := 32) dX9_law_7 (by decide) (Eq.refl 10) (by omega) (by omega) (fun h7 => ?_) (fun h7 => ?_)
      · exact absurd h7 (by omega)
      · refine Tr.iload_n (i := 3) dX9_law_10 rfl rfl (Eq.refl 11) ?_
        refine Tr.iconst (v := nI 1) dX9_law_11 (icN 1) (Eq.refl 12) ?_
        refine Tr.icmp_ltN (tgt := 32) dX9_law_12 (by decide) (Eq.refl 15) (by omega) (by omega) (fun h12 => ?_) (fun h12 => ?_)
        · exact absurd h12 (by omega)
        · refine Tr.iload_n (i := 3) dX9_law_15 rfl rfl (Eq.refl 16) ?_
          refine Tr.bipush (v := nI 20) dX9_law_16 (by decide +kernel) (Eq.refl 18) ?_
          refine Tr.icmp_gtN (tgt := 32) dX9_law_18 (by decide) (Eq.refl 21) (by omega) (by omega) (fun h18 => ?_) (fun h18 => ?_)
          · exact absurd h18 (by omega)
          · refine Tr.iload dX9_law_21 rfl (Eq.refl 23) ?_
            refine Tr.if_lt (tgt := 32) dX9_law_23 (by decide) (Eq.refl 26) (fun h23 => ?_) (fun h23 => ?_)
            · exact absurd h23 (nI_nneg (by omega))
            · refine Tr.iload dX9_law_26 rfl (Eq.refl 28) ?_
              refine Tr.iconst (v := nI 1) dX9_law_28 (icN 1) (Eq.refl 29) ?_
              refine Tr.icmp_leN (tgt := 35) dX9_law_29 (by decide) (Eq.refl 32) (by omega) (by omega) (fun h29 => ?_) (fun h29 => ?_)
              · refine Tr.aload_n (i := 0) dX9_law_35 rfl rfl (Eq.refl 36) ?_
                refine Tr.getf dX9_law_36 fX9_46 rfl rfl (Eq.refl 39) ?_
                refine Tr.aload_n (i := 0) dX9_law_39 rfl rfl (Eq.refl 40) ?_
                refine Tr.getf dX9_law_40 fX9_28 rfl rfl (Eq.refl 43) ?_
                refine Tr.aload_n (i := 0) dX9_law_43 rfl rfl (Eq.refl 44) ?_
                refine Tr.getf dX9_law_44 fX9_35 rfl rfl (Eq.refl 47) ?_
                refine Tr.callV (L := l_so) (Md.refs 29 (fun k => some (ad (1 + 36 + 7 * k))) (c_setOut E _ T V X S P L a kp W) rfl rfl (dyS ad)) dX9_law_47 (kX9_213 (Nat.le_of_ble_eq_true rfl)) iX6_setOut rfl rfl rfl rfl rfl rfl rfl rfl rfl rfl (Eq.refl 50) ?_
                refine Tr.pic (w' := xtC E ad r hf (stT T V P L S) V X S P L a kp W) (putB_eq (Lc := [0]) 95 rfl rfl rfl rfl ⟨⟨_, rfl, rfl⟩, trivial⟩ (by decide) rfl) ?_
                generalize (stT T V P L S) = T2 at *
                refine Tr.aload_n (i := 0) dX9_law_50 rfl rfl (Eq.refl 51) ?_
                refine Tr.getf dX9_law_51 fX9_46 rfl rfl (Eq.refl 54) ?_
                refine Tr.iload_n (i := 1) dX9_law_54 rfl rfl (Eq.refl 55) ?_
                refine Tr.iload_n (i := 2) dX9_law_55 rfl rfl (Eq.refl 56) ?_
                refine Tr.iload_n (i := 3) dX9_law_56 rfl rfl (Eq.refl 57) ?_
                refine Tr.callV (L := l_tr) (Md.refs 29 (fun k => some (ad (1 + 36 + 7 * k))) (c_runLaw E _ T2 b c d hT (by omega)) rfl rfl (dyT ad)) dX9_law_57 (kX9_265 (Nat.le_of_ble_eq_true rfl)) iX6_runLaw rfl rfl rfl rfl rfl rfl rfl rfl rfl rfl (Eq.refl 60) ?_
                refine Tr.pic (w' := xtC E ad r hf (rqT (lwT T2 b c) (d * 4)) V X S P L a kp W) (putB_eq (Lc := [0, 72, 73, 74, 75, 76, 77, 78, 79, 80, 81, 82, 83, 84, 85, 86, 87, 88, 89, 90, 91, 92, 93, 94]) 95 rfl rfl rfl rfl ⟨⟨_, rfl, rfl⟩, ⟨_, rfl, rfl⟩, ⟨_, rfl, rfl⟩, ⟨_, rfl, rfl⟩, ⟨_, rfl, rfl⟩, ⟨_, rfl, rfl⟩, ⟨_, rfl, rfl⟩, ⟨_, rfl, rfl⟩, ⟨_, rfl, rfl⟩, ⟨_, rfl, rfl⟩, ⟨_, rfl, rfl⟩, ⟨_, rfl, rfl⟩, ⟨_, rfl, rfl⟩, ⟨_, rfl, rfl⟩, ⟨_, rfl, rfl⟩, ⟨_, rfl, rfl⟩, ⟨_, rfl, rfl⟩, ⟨_, rfl, rfl⟩, ⟨_, rfl, rfl⟩, ⟨_, rfl, rfl⟩, ⟨_, rfl, rfl⟩, ⟨_, rfl, rfl⟩, ⟨_, rfl, rfl⟩, ⟨_, rfl, rfl⟩, trivial⟩ (by decide) rfl) ?_
                generalize rqT (lwT T2 b c) (d * 4) = T3 at *
                refine Tr.iload dX9_law_60 rfl (Eq.refl 62) ?_
                refine Tr.if_ne (tgt := 75) dX9_law_62 (by decide) (Eq.refl 65) (fun h62 => ?_) (fun h62 => ?_)
                · rw [if_neg (show ¬ nI k = nI 0 from h62)]
                  refine Tr.aload_n (i := 0) dX9_law_75 rfl rfl (Eq.refl 76) ?_
                  refine Tr.getf dX9_law_76 fX9_46 rfl rfl (Eq.refl 79) ?_
                  refine Tr.callVr (L := l_tr) (Md.refs 29 (fun k => some (ad (1 + 36 + 7 * k))) (show Md E _ (adc ad l_tr 95) _ (trC E (adc ad l_tr 95) 0 T3) (some (.int (slF T3 (nhV V)))) (trC E (adc ad l_tr 95) 0 T3) from by have h9 := c_stateLost E (adc ad l_tr 95) T3 hV3; rw [eh3] at h9; exact h9) rfl rfl (dyT ad)) dX9_law_79 (kX9_272 (Nat.le_of_ble_eq_true rfl)) iX6_stateLost rfl rfl rfl rfl rfl rfl rfl rfl rfl (Eq.refl 82) ?_
                  refine Tr.iret dX9_law_82 rfl (by first | rfl | exact bI_nar _) ?_ ?_
                  · rfl
                  · rfl
                · rw [if_pos (show nI k = nI 0 from h62)]
                  refine Tr.aload_n (i := 0) dX9_law_65 rfl rfl (Eq.refl 66) ?_
                  refine Tr.getf dX9_law_66 fX9_46 rfl rfl (Eq.refl 69) ?_
                  refine Tr.callVr (L := l_tr) (Md.refs 29 (fun k => some (ad (1 + 36 + 7 * k))) (show Md E _ (adc ad l_tr 95) _ (trC E (adc ad l_tr 95) 0 T3) (some (.int (gaF T3 (npV V)))) (trC E (adc ad l_tr 95) 0 T3) from by have h9 := c_gainOfAll E (adc ad l_tr 95) T3 hV3; rw [en3] at h9; exact h9) rfl rfl (dyT ad)) dX9_law_69 (kX9_269 (Nat.le_of_ble_eq_true rfl)) iX6_gainOfAll rfl rfl rfl rfl rfl rfl rfl rfl rfl (Eq.refl 72) ?_
                  refine Tr.goto (pc' := 82) dX9_law_72 (by decide) ?_
                  refine Tr.iret dX9_law_82 rfl (by first | rfl | exact bI_nar _) ?_ ?_
                  · rfl
                  · rfl
              · exact absurd h29 (by omega)
  · rw [if_neg hc, if_neg hc]
    refine Md.of 0 (by decide) rfl rfl ?_
    refine Tr.iload_n (i := 2) dX9_law_0 rfl rfl (Eq.refl 1) ?_
    refine Tr.if_lt (tgt := 32) dX9_law_1 (by decide) (Eq.refl 4) (fun h1 => ?_) (fun h1 => ?_)
    · refine Tr.ldc dX9_law_32 qX9_184 (Eq.refl 34) ?_
      refine Tr.iret dX9_law_34 rfl (by first | rfl | exact bI_nar _) ?_ ?_
      · rfl
      · rfl
    · refine Tr.iload_n (i := 2) dX9_law_4 rfl rfl (Eq.refl 5) ?_
      refine Tr.bipush (v := nI 28) dX9_law_5 (by decide +kernel) (Eq.refl 7) ?_
      refine Tr.icmp_gt (tgt := 32) dX9_law_7 (by decide) (Eq.refl 10) (fun h7 => ?_) (fun h7 => ?_)
      · refine Tr.ldc dX9_law_32 qX9_184 (Eq.refl 34) ?_
        refine Tr.iret dX9_law_34 rfl (by first | rfl | exact bI_nar _) ?_ ?_
        · rfl
        · rfl
      · refine Tr.iload_n (i := 3) dX9_law_10 rfl rfl (Eq.refl 11) ?_
        refine Tr.iconst (v := nI 1) dX9_law_11 (icN 1) (Eq.refl 12) ?_
        refine Tr.icmp_lt (tgt := 32) dX9_law_12 (by decide) (Eq.refl 15) (fun h12 => ?_) (fun h12 => ?_)
        · refine Tr.ldc dX9_law_32 qX9_184 (Eq.refl 34) ?_
          refine Tr.iret dX9_law_34 rfl (by first | rfl | exact bI_nar _) ?_ ?_
          · rfl
          · rfl
        · refine Tr.iload_n (i := 3) dX9_law_15 rfl rfl (Eq.refl 16) ?_
          refine Tr.bipush (v := nI 20) dX9_law_16 (by decide +kernel) (Eq.refl 18) ?_
          refine Tr.icmp_gt (tgt := 32) dX9_law_18 (by decide) (Eq.refl 21) (fun h18 => ?_) (fun h18 => ?_)
          · refine Tr.ldc dX9_law_32 qX9_184 (Eq.refl 34) ?_
            refine Tr.iret dX9_law_34 rfl (by first | rfl | exact bI_nar _) ?_ ?_
            · rfl
            · rfl
          · refine Tr.iload dX9_law_21 rfl (Eq.refl 23) ?_
            refine Tr.if_lt (tgt := 32) dX9_law_23 (by decide) (Eq.refl 26) (fun h23 => ?_) (fun h23 => ?_)
            · refine Tr.ldc dX9_law_32 qX9_184 (Eq.refl 34) ?_
              refine Tr.iret dX9_law_34 rfl (by first | rfl | exact bI_nar _) ?_ ?_
              · rfl
              · rfl
            · refine Tr.iload dX9_law_26 rfl (Eq.refl 28) ?_
              refine Tr.iconst (v := nI 1) dX9_law_28 (icN 1) (Eq.refl 29) ?_
              refine Tr.icmp_leL (tgt := 35) dX9_law_29 (by decide) (Eq.refl 32) (fun h29 => ?_) (fun h29 => ?_)
              · exact absurd (by rw [rgB_t (a := nI 0) (b := nI 28) h1 h7, rgB_t (a := nI 1) (b := nI 20) h12 h18, rgB_t (a := nI 0) (b := nI 1) h23 h29]; rfl) hc
              · refine Tr.ldc dX9_law_32 qX9_184 (Eq.refl 34) ?_
                refine Tr.iret dX9_law_34 rfl (by first | rfl | exact bI_nar _) ?_ ?_
                · rfl
                · rfl
set_option maxHeartbeats 4000000 in
set_option maxRecDepth 100000 in
theorem x_edge (E : EnvT) (ad r : Nat → Nat) (hf : Int32) (T : Tst) (V : Vil) (X : Vix) (S : Scn) (P : Nat → Nat) (L : Nat → Int32) (a : Nat) (kp : Bool) (W : Nat → Nat) (x y : Int32) (hV : Vok V) (hS : Sle V S) (hP : Ple P) (ht : psS S < 2 ^ 30) : Md E mX9_edge ad [.ref (ad 0), .int x, .int y] (xtC E ad r hf T V X S P L a kp W) (some (.int (if (ixB x (npV V) && ixB y (npV V) && !decide (x = y)) then (if hoV V (nN x) < 5 then (wrT (stT T V P L S) (nN x) (nN y)).2 else -4) else -2))) (xtC E ad r hf (if (ixB x (npV V) && ixB y (npV V) && !decide (x = y)) then (if hoV V (nN x) < 5 then (wrT (stT T V P L S) (nN x) (nN y)).1 else T) else T) V X S P L a kp W) := by
  have v1 := hV.1
  have v2 := hV.2.1
  have hT : Tok (stT T V P L S) := stT_ok hV hS hP ht
  by_cases hc : (ixB x (npV V) && ixB y (npV V) && !decide (x = y)) = true
  · rw [if_pos hc, if_pos hc]
    have hc0 := Bool.and_eq_true_iff.mp hc
    have hc1 : ixB x (npV V) = true := (Bool.and_eq_true_iff.mp hc0.1).1
    have hc2 : ixB y (npV V) = true := (Bool.and_eq_true_iff.mp hc0.1).2
    obtain ⟨p, hp, rfl⟩ := ixB_n v2 hc1
    obtain ⟨q, hq, rfl⟩ := ixB_n v2 hc2
    rw [nN_n (show p < 2 ^ 31 by omega), nN_n (show q < 2 ^ 31 by omega)]
    have v4 := hV.2.2.2.1 p hp
    have eV : vT (stT T V P L S) = V := rfl
    by_cases hh : hoV V p < 5
    · rw [if_pos hh, if_pos hh]
      refine Md.of 0 (by decide) rfl rfl ?_
      refine Tr.aload_n (i := 0) dX9_edge_0 rfl rfl (Eq.refl 1) ?_
      refine Tr.iload_n (i := 1) dX9_edge_1 rfl rfl (Eq.refl 2) ?_
      refine Tr.iload_n (i := 2) dX9_edge_2 rfl rfl (Eq.refl 3) ?_
      refine Tr.callVr (L := [0, 72, 73, 74, 75, 76, 77, 78, 79, 80, 81, 82]) (x_areTwo E _ (rV ad r) hf V X (nI p) (nI q)) dX9_edge_3 (kX9_143 (Nat.le_of_ble_eq_true rfl)) iX9_areTwo rfl rfl rfl rfl rfl rfl rfl rfl rfl (Eq.refl 6) ?_
      refine Tr.if_neB (tgt := 12) dX9_edge_6 (by decide) (Eq.refl 9) (fun h6 => ?_) (fun h6 => ?_)
      · refine Tr.aload_n (i := 0) dX9_edge_12 rfl rfl (Eq.refl 13) ?_
        refine Tr.getf dX9_edge_13 fX9_28 rfl rfl (Eq.refl 16) ?_
        refine Tr.getf dX9_edge_16 fX9_137 rfl rfl (Eq.refl 19) ?_
        refine Tr.iload_n (i := 1) dX9_edge_19 rfl rfl (Eq.refl 20) ?_
        refine Tr.ialdN dX9_edge_20 rfl (by omega) (by decide) (Eq.refl 21) ?_
        refine Tr.iconst (v := (-1)) dX9_edge_21 (by decide +kernel) (Eq.refl 22) ?_
        refine Tr.icmp_ne (tgt := 28) dX9_edge_22 (by decide) (Eq.refl 25) (fun h22 => ?_) (fun h22 => ?_)
        · refine Tr.aload_n (i := 0) dX9_edge_28 rfl rfl (Eq.refl 29) ?_
          refine Tr.getf dX9_edge_29 fX9_46 rfl rfl (Eq.refl 32) ?_
          refine Tr.aload_n (i := 0) dX9_edge_32 rfl rfl (Eq.refl 33) ?_
          refine Tr.getf dX9_edge_33 fX9_28 rfl rfl (Eq.refl 36) ?_
          refine Tr.aload_n (i := 0) dX9_edge_36 rfl rfl (Eq.refl 37) ?_
          refine Tr.getf dX9_edge_37 fX9_35 rfl rfl (Eq.refl 40) ?_
          refine Tr.callV (L := l_so) (Md.refs 29 (fun k => some (ad (1 + 36 + 7 * k))) (c_setOut E _ T V X S P L a kp W) rfl rfl (dyS ad)) dX9_edge_40 (kX9_213 (Nat.le_of_ble_eq_true rfl)) iX6_setOut rfl rfl rfl rfl rfl rfl rfl rfl rfl rfl (Eq.refl 43) ?_
          refine Tr.pic (w' := xtC E ad r hf (stT T V P L S) V X S P L a kp W) (putB_eq (Lc := [0]) 95 rfl rfl rfl rfl ⟨⟨_, rfl, rfl⟩, trivial⟩ (by decide) rfl) ?_
          generalize (stT T V P L S) = T2 at *
          refine Tr.aload_n (i := 0) dX9_edge_43 rfl rfl (Eq.refl 44) ?_
          refine Tr.getf dX9_edge_44 fX9_46 rfl rfl (Eq.refl 47) ?_
          refine Tr.iload_n (i := 1) dX9_edge_47 rfl rfl (Eq.refl 48) ?_
          refine Tr.iload_n (i := 2) dX9_edge_48 rfl rfl (Eq.refl 49) ?_
          refine Tr.callV (L := l_tr) (Md.refs 29 (fun k => some (ad (1 + 36 + 7 * k))) (c_leastWorth E _ T2 p q hT (by rw [eV]; exact hp)) rfl rfl (dyT ad)) dX9_edge_49 (kX9_290 (Nat.le_of_ble_eq_true rfl)) iX6_leastWorth rfl rfl rfl rfl rfl rfl rfl rfl rfl rfl (Eq.refl 52) ?_
          refine Tr.pic (w' := xtC E ad r hf (wrT T2 p q).1 V X S P L a kp W) (putB_eq (Lc := [0, 72, 73, 74, 75, 76, 77, 78, 79, 80, 81, 82, 83, 84, 85, 86, 87, 88, 89, 90, 91, 92, 93, 94]) 95 rfl rfl rfl rfl ⟨⟨_, rfl, rfl⟩, ⟨_, rfl, rfl⟩, ⟨_, rfl, rfl⟩, ⟨_, rfl, rfl⟩, ⟨_, rfl, rfl⟩, ⟨_, rfl, rfl⟩, ⟨_, rfl, rfl⟩, ⟨_, rfl, rfl⟩, ⟨_, rfl, rfl⟩, ⟨_, rfl, rfl⟩, ⟨_, rfl, rfl⟩, ⟨_, rfl, rfl⟩, ⟨_, rfl, rfl⟩, ⟨_, rfl, rfl⟩, ⟨_, rfl, rfl⟩, ⟨_, rfl, rfl⟩, ⟨_, rfl, rfl⟩, ⟨_, rfl, rfl⟩, ⟨_, rfl, rfl⟩, ⟨_, rfl, rfl⟩, ⟨_, rfl, rfl⟩, ⟨_, rfl, rfl⟩, ⟨_, rfl, rfl⟩, ⟨_, rfl, rfl⟩, trivial⟩ (by decide) rfl) ?_
          refine Tr.iret dX9_edge_52 rfl (by first | rfl | exact bI_nar _) ?_ ?_
          · rfl
          · rfl
        · exact absurd hh (cl_none.mp h22)
      · exact absurd (hc.symm.trans h6) (by decide)
    · rw [if_neg hh, if_neg hh]
      refine Md.of 0 (by decide) rfl rfl ?_
      refine Tr.aload_n (i := 0) dX9_edge_0 rfl rfl (Eq.refl 1) ?_
      refine Tr.iload_n (i := 1) dX9_edge_1 rfl rfl (Eq.refl 2) ?_
      refine Tr.iload_n (i := 2) dX9_edge_2 rfl rfl (Eq.refl 3) ?_
      refine Tr.callVr (L := [0, 72, 73, 74, 75, 76, 77, 78, 79, 80, 81, 82]) (x_areTwo E _ (rV ad r) hf V X (nI p) (nI q)) dX9_edge_3 (kX9_143 (Nat.le_of_ble_eq_true rfl)) iX9_areTwo rfl rfl rfl rfl rfl rfl rfl rfl rfl (Eq.refl 6) ?_
      refine Tr.if_neB (tgt := 12) dX9_edge_6 (by decide) (Eq.refl 9) (fun h6 => ?_) (fun h6 => ?_)
      · refine Tr.aload_n (i := 0) dX9_edge_12 rfl rfl (Eq.refl 13) ?_
        refine Tr.getf dX9_edge_13 fX9_28 rfl rfl (Eq.refl 16) ?_
        refine Tr.getf dX9_edge_16 fX9_137 rfl rfl (Eq.refl 19) ?_
        refine Tr.iload_n (i := 1) dX9_edge_19 rfl rfl (Eq.refl 20) ?_
        refine Tr.ialdN dX9_edge_20 rfl (by omega) (by decide) (Eq.refl 21) ?_
        refine Tr.iconst (v := (-1)) dX9_edge_21 (by decide +kernel) (Eq.refl 22) ?_
        refine Tr.icmp_ne (tgt := 28) dX9_edge_22 (by decide) (Eq.refl 25) (fun h22 => ?_) (fun h22 => ?_)
        · exact absurd (cl_none.mpr hh) h22
        · refine Tr.bipush (v := (-4)) dX9_edge_25 (by decide +kernel) (Eq.refl 27) ?_
          refine Tr.iret dX9_edge_27 rfl (by first | rfl | exact bI_nar _) ?_ ?_
          · rfl
          · rfl
      · exact absurd (hc.symm.trans h6) (by decide)
  · rw [if_neg hc, if_neg hc]
    refine Md.of 0 (by decide) rfl rfl ?_
    refine Tr.aload_n (i := 0) dX9_edge_0 rfl rfl (Eq.refl 1) ?_
    refine Tr.iload_n (i := 1) dX9_edge_1 rfl rfl (Eq.refl 2) ?_
    refine Tr.iload_n (i := 2) dX9_edge_2 rfl rfl (Eq.refl 3) ?_
    refine Tr.callVr (L := [0, 72, 73, 74, 75, 76, 77, 78, 79, 80, 81, 82]) (x_areTwo E _ (rV ad r) hf V X x y) dX9_edge_3 (kX9_143 (Nat.le_of_ble_eq_true rfl)) iX9_areTwo rfl rfl rfl rfl rfl rfl rfl rfl rfl (Eq.refl 6) ?_
    refine Tr.if_neB (tgt := 12) dX9_edge_6 (by decide) (Eq.refl 9) (fun h6 => ?_) (fun h6 => ?_)
    · exact absurd h6 hc
    · refine Tr.bipush (v := (-2)) dX9_edge_9 (by decide +kernel) (Eq.refl 11) ?_
      refine Tr.iret dX9_edge_11 rfl (by first | rfl | exact bI_nar _) ?_ ?_
      · rfl
      · rfl
set_option maxHeartbeats 4000000 in
set_option maxRecDepth 100000 in
theorem x_guard (E : EnvT) (ad r : Nat → Nat) (hf : Int32) (T : Tst) (V : Vil) (X : Vix) (S : Scn) (P : Nat → Nat) (L : Nat → Int32) (a : Nat) (kp : Bool) (W : Nat → Nat) (x y : Int32) (hV : Vok V) (hS : Sle V S) (hP : Ple P) (ht : psS S < 2 ^ 30) : Md E mX9_guard ad [.ref (ad 0), .int x, .int y] (xtC E ad r hf T V X S P L a kp W) (some (.int (if (ixB x (npV V) && ixB y (npV V) && !decide (x = y)) then (if hoV V (nN x) < 5 then bI (!decide (smF (hoT2 (stT T V P L S) (hoV V (nN x)) (nN y)) (nN y) < smF (stT T V P L S) (nN y))) else -1) else -2))) (xtC E ad r hf (if (ixB x (npV V) && ixB y (npV V) && !decide (x = y)) then (if hoV V (nN x) < 5 then (rqT (hoT2 (stT T V P L S) (hoV V (nN x)) (nN y)) 4) else T) else T) V X S P L a kp W) := by
  have v1 := hV.1
  have v2 := hV.2.1
  have hT : Tok (stT T V P L S) := stT_ok hV hS hP ht
  by_cases hc : (ixB x (npV V) && ixB y (npV V) && !decide (x = y)) = true
  · rw [if_pos hc, if_pos hc]
    have hc0 := Bool.and_eq_true_iff.mp hc
    have hc1 : ixB x (npV V) = true := (Bool.and_eq_true_iff.mp hc0.1).1
    have hc2 : ixB y (npV V) = true := (Bool.and_eq_true_iff.mp hc0.1).2
    obtain ⟨p, hp, rfl⟩ := ixB_n v2 hc1
    obtain ⟨q, hq, rfl⟩ := ixB_n v2 hc2
    rw [nN_n (show p < 2 ^ 31 by omega), nN_n (show q < 2 ^ 31 by omega)]
    have v4 := hV.2.2.2.1 p hp
    have eV : vT (stT T V P L S) = V := rfl
    by_cases hh : hoV V p < 5
    · rw [if_pos hh, if_pos hh]
      have hk : Tok (hoT2 (stT T V P L S) (hoV V p) q) := ⟨hV, fun k hk => by
        show plE P q (hoV V p) 4 k ≤ 5
        rw [plE_at]
        split
        · omega
        · exact hP k hk, hS, ht⟩
      refine Md.of 1 (by decide) rfl rfl ?_
      refine Tr.aload_n (i := 0) dX9_guard_0 rfl rfl (Eq.refl 1) ?_
      refine Tr.iload_n (i := 1) dX9_guard_1 rfl rfl (Eq.refl 2) ?_
      refine Tr.iload_n (i := 2) dX9_guard_2 rfl rfl (Eq.refl 3) ?_
      refine Tr.callVr (L := [0, 72, 73, 74, 75, 76, 77, 78, 79, 80, 81, 82]) (x_areTwo E _ (rV ad r) hf V X (nI p) (nI q)) dX9_guard_3 (kX9_143 (Nat.le_of_ble_eq_true rfl)) iX9_areTwo rfl rfl rfl rfl rfl rfl rfl rfl rfl (Eq.refl 6) ?_
      refine Tr.if_neB (tgt := 12) dX9_guard_6 (by decide) (Eq.refl 9) (fun h6 => ?_) (fun h6 => ?_)
      · refine Tr.aload_n (i := 0) dX9_guard_12 rfl rfl (Eq.refl 13) ?_
        refine Tr.getf dX9_guard_13 fX9_28 rfl rfl (Eq.refl 16) ?_
        refine Tr.getf dX9_guard_16 fX9_137 rfl rfl (Eq.refl 19) ?_
        refine Tr.iload_n (i := 1) dX9_guard_19 rfl rfl (Eq.refl 20) ?_
        refine Tr.ialdN dX9_guard_20 rfl (by omega) (by decide) (Eq.refl 21) ?_
        refine Tr.istore_n (i := 3) dX9_guard_21 rfl rfl rfl (Eq.refl 22) ?_
        refine Tr.iload_n (i := 3) dX9_guard_22 rfl rfl (Eq.refl 23) ?_
        refine Tr.iconst (v := (-1)) dX9_guard_23 (by decide +kernel) (Eq.refl 24) ?_
        refine Tr.icmp_ne (tgt := 29) dX9_guard_24 (by decide) (Eq.refl 27) (fun h24 => ?_) (fun h24 => ?_)
        · rw [cl_lt hh]
          refine Tr.aload_n (i := 0) dX9_guard_29 rfl rfl (Eq.refl 30) ?_
          refine Tr.getf dX9_guard_30 fX9_46 rfl rfl (Eq.refl 33) ?_
          refine Tr.aload_n (i := 0) dX9_guard_33 rfl rfl (Eq.refl 34) ?_
          refine Tr.getf dX9_guard_34 fX9_28 rfl rfl (Eq.refl 37) ?_
          refine Tr.aload_n (i := 0) dX9_guard_37 rfl rfl (Eq.refl 38) ?_
          refine Tr.getf dX9_guard_38 fX9_35 rfl rfl (Eq.refl 41) ?_
          refine Tr.callV (L := l_so) (Md.refs 29 (fun k => some (ad (1 + 36 + 7 * k))) (c_setOut E _ T V X S P L a kp W) rfl rfl (dyS ad)) dX9_guard_41 (kX9_213 (Nat.le_of_ble_eq_true rfl)) iX6_setOut rfl rfl rfl rfl rfl rfl rfl rfl rfl rfl (Eq.refl 44) ?_
          refine Tr.pic (w' := xtC E ad r hf (stT T V P L S) V X S P L a kp W) (putB_eq (Lc := [0]) 95 rfl rfl rfl rfl ⟨⟨_, rfl, rfl⟩, trivial⟩ (by decide) rfl) ?_
          generalize (stT T V P L S) = T2 at *
          refine Tr.aload_n (i := 0) dX9_guard_44 rfl rfl (Eq.refl 45) ?_
          refine Tr.getf dX9_guard_45 fX9_46 rfl rfl (Eq.refl 48) ?_
          refine Tr.iload_n (i := 3) dX9_guard_48 rfl rfl (Eq.refl 49) ?_
          refine Tr.iload_n (i := 2) dX9_guard_49 rfl rfl (Eq.refl 50) ?_
          refine Tr.callV (L := l_tr) (Md.refs 29 (fun k => some (ad (1 + 36 + 7 * k))) (c_holds E _ T2 (hoV V p) q hT (by rw [eV]; exact hq) hh hk) rfl rfl (dyT ad)) dX9_guard_50 (kX9_247 (Nat.le_of_ble_eq_true rfl)) iX6_holds rfl rfl rfl rfl rfl rfl rfl rfl rfl rfl (Eq.refl 53) ?_
          refine Tr.pic (w' := xtC E ad r hf (rqT (hoT2 T2 (hoV V p) q) 4) V X S P L a kp W) (putB_eq (Lc := [0, 72, 73, 74, 75, 76, 77, 78, 79, 80, 81, 82, 83, 84, 85, 86, 87, 88, 89, 90, 91, 92, 93, 94]) 95 rfl rfl rfl rfl ⟨⟨_, rfl, rfl⟩, ⟨_, rfl, rfl⟩, ⟨_, rfl, rfl⟩, ⟨_, rfl, rfl⟩, ⟨_, rfl, rfl⟩, ⟨_, rfl, rfl⟩, ⟨_, rfl, rfl⟩, ⟨_, rfl, rfl⟩, ⟨_, rfl, rfl⟩, ⟨_, rfl, rfl⟩, ⟨_, rfl, rfl⟩, ⟨_, rfl, rfl⟩, ⟨_, rfl, rfl⟩, ⟨_, rfl, rfl⟩, ⟨_, rfl, rfl⟩, ⟨_, rfl, rfl⟩, ⟨_, rfl, rfl⟩, ⟨_, rfl, rfl⟩, ⟨_, rfl, rfl⟩, ⟨_, rfl, rfl⟩, ⟨_, rfl, rfl⟩, ⟨_, rfl, rfl⟩, ⟨_, rfl, rfl⟩, ⟨_, rfl, rfl⟩, trivial⟩ (by decide) rfl) ?_
          refine Tr.if_eqB (tgt := 60) dX9_guard_53 (by decide) (Eq.refl 56) (fun h53 => ?_) (fun h53 => ?_)
          · rw [h53]
            refine Tr.iconst (v := nI 0) dX9_guard_60 (icN 0) (Eq.refl 61) ?_
            refine Tr.iret dX9_guard_61 rfl (by first | rfl | exact bI_nar _) ?_ ?_
            · rfl
            · rfl
          · rw [h53]
            refine Tr.iconst (v := nI 1) dX9_guard_56 (icN 1) (Eq.refl 57) ?_
            refine Tr.goto (pc' := 61) dX9_guard_57 (by decide) ?_
            refine Tr.iret dX9_guard_61 rfl (by first | rfl | exact bI_nar _) ?_ ?_
            · rfl
            · rfl
        · exact absurd hh (cl_none.mp h24)
      · exact absurd (hc.symm.trans h6) (by decide)
    · rw [if_neg hh, if_neg hh]
      refine Md.of 1 (by decide) rfl rfl ?_
      refine Tr.aload_n (i := 0) dX9_guard_0 rfl rfl (Eq.refl 1) ?_
      refine Tr.iload_n (i := 1) dX9_guard_1 rfl rfl (Eq.refl 2) ?_
      refine Tr.iload_n (i := 2) dX9_guard_2 rfl rfl (Eq.refl 3) ?_
      refine Tr.callVr (L := [0, 72, 73, 74, 75, 76, 77, 78, 79, 80, 81, 82]) (x_areTwo E _ (rV ad r) hf V X (nI p) (nI q)) dX9_guard_3 (kX9_143 (Nat.le_of_ble_eq_true rfl)) iX9_areTwo rfl rfl rfl rfl rfl rfl rfl rfl rfl (Eq.refl 6) ?_
      refine Tr.if_neB (tgt := 12) dX9_guard_6 (by decide) (Eq.refl 9) (fun h6 => ?_) (fun h6 => ?_)
      · refine Tr.aload_n (i := 0) dX9_guard_12 rfl rfl (Eq.refl 13) ?_
        refine Tr.getf dX9_guard_13 fX9_28 rfl rfl (Eq.refl 16) ?_
        refine Tr.getf dX9_guard_16 fX9_137 rfl rfl (Eq.refl 19) ?_
        refine Tr.iload_n (i := 1) dX9_guard_19 rfl rfl (Eq.refl 20) ?_
        refine Tr.ialdN dX9_guard_20 rfl (by omega) (by decide) (Eq.refl 21) ?_
        refine Tr.istore_n (i := 3) dX9_guard_21 rfl rfl rfl (Eq.refl 22) ?_
        refine Tr.iload_n (i := 3) dX9_guard_22 rfl rfl (Eq.refl 23) ?_
        refine Tr.iconst (v := (-1)) dX9_guard_23 (by decide +kernel) (Eq.refl 24) ?_
        refine Tr.icmp_ne (tgt := 29) dX9_guard_24 (by decide) (Eq.refl 27) (fun h24 => ?_) (fun h24 => ?_)
        · exact absurd (cl_none.mpr hh) h24
        · refine Tr.iconst (v := (-1)) dX9_guard_27 (by decide +kernel) (Eq.refl 28) ?_
          refine Tr.iret dX9_guard_28 rfl (by first | rfl | exact bI_nar _) ?_ ?_
          · rfl
          · rfl
      · exact absurd (hc.symm.trans h6) (by decide)
  · rw [if_neg hc, if_neg hc]
    refine Md.of 1 (by decide) rfl rfl ?_
    refine Tr.aload_n (i := 0) dX9_guard_0 rfl rfl (Eq.refl 1) ?_
    refine Tr.iload_n (i := 1) dX9_guard_1 rfl rfl (Eq.refl 2) ?_
    refine Tr.iload_n (i := 2) dX9_guard_2 rfl rfl (Eq.refl 3) ?_
    refine Tr.callVr (L := [0, 72, 73, 74, 75, 76, 77, 78, 79, 80, 81, 82]) (x_areTwo E _ (rV ad r) hf V X x y) dX9_guard_3 (kX9_143 (Nat.le_of_ble_eq_true rfl)) iX9_areTwo rfl rfl rfl rfl rfl rfl rfl rfl rfl (Eq.refl 6) ?_
    refine Tr.if_neB (tgt := 12) dX9_guard_6 (by decide) (Eq.refl 9) (fun h6 => ?_) (fun h6 => ?_)
    · exact absurd h6 hc
    · refine Tr.bipush (v := (-2)) dX9_guard_9 (by decide +kernel) (Eq.refl 11) ?_
      refine Tr.iret dX9_guard_11 rfl (by first | rfl | exact bI_nar _) ?_ ?_
      · rfl
      · rfl
set_option maxHeartbeats 4000000 in
set_option maxRecDepth 100000 in
theorem x_rests (E : EnvT) (ad r : Nat → Nat) (hf : Int32) (T : Tst) (V : Vil) (X : Vix) (S : Scn) (P : Nat → Nat) (L : Nat → Int32) (a : Nat) (kp : Bool) (W : Nat → Nat) (N : Nat) (hN : N = 7776) (hV : Vok V) (hS : Sle V S) (hP : Ple P) (ht : psS S < 2 ^ 30) : Md E mX9_rests ad [.ref (ad 0)] (xtC E ad r hf T V X S P L a kp W) (some (.int (nI (rtF N (stT T V P L S) (-1)).1))) (xtC E ad r hf (rtT N (stT T V P L S) (-1)) V X S P L a kp W) := by
  have hT : Tok (stT T V P L S) := stT_ok hV hS hP ht
  refine Md.of 0 (by decide) rfl rfl ?_
  refine Tr.aload_n (i := 0) dX9_rests_0 rfl rfl (Eq.refl 1) ?_
  refine Tr.getf dX9_rests_1 fX9_46 rfl rfl (Eq.refl 4) ?_
  refine Tr.aload_n (i := 0) dX9_rests_4 rfl rfl (Eq.refl 5) ?_
  refine Tr.getf dX9_rests_5 fX9_28 rfl rfl (Eq.refl 8) ?_
  refine Tr.aload_n (i := 0) dX9_rests_8 rfl rfl (Eq.refl 9) ?_
  refine Tr.getf dX9_rests_9 fX9_35 rfl rfl (Eq.refl 12) ?_
  refine Tr.callV (L := l_so) (Md.refs 29 (fun k => some (ad (1 + 36 + 7 * k))) (c_setOut E _ T V X S P L a kp W) rfl rfl (dyS ad)) dX9_rests_12 (kX9_213 (Nat.le_of_ble_eq_true rfl)) iX6_setOut rfl rfl rfl rfl rfl rfl rfl rfl rfl rfl (Eq.refl 15) ?_
  refine Tr.pic (w' := xtC E ad r hf (stT T V P L S) V X S P L a kp W) (putB_eq (Lc := [0]) 95 rfl rfl rfl rfl ⟨⟨_, rfl, rfl⟩, trivial⟩ (by decide) rfl) ?_
  generalize (stT T V P L S) = T2 at *
  refine Tr.aload_n (i := 0) dX9_rests_15 rfl rfl (Eq.refl 16) ?_
  refine Tr.getf dX9_rests_16 fX9_46 rfl rfl (Eq.refl 19) ?_
  refine Tr.iconst (v := (-1)) dX9_rests_19 (by decide +kernel) (Eq.refl 20) ?_
  refine Tr.callV (L := l_tr) (Md.refs 29 (fun k => some (ad (1 + 36 + 7 * k))) (c_findRest E _ N hN T2 (-1) hT) rfl rfl (dyT ad)) dX9_rests_20 (kX9_229 (Nat.le_of_ble_eq_true rfl)) iX6_findRest rfl rfl rfl rfl rfl rfl rfl rfl rfl rfl (Eq.refl 23) ?_
  refine Tr.pic (w' := xtC E ad r hf (rtT N T2 (-1)) V X S P L a kp W) (putB_eq (Lc := [0, 72, 73, 74, 75, 76, 77, 78, 79, 80, 81, 82, 83, 84, 85, 86, 87, 88, 89, 90, 91, 92, 93, 94]) 95 rfl rfl rfl rfl ⟨⟨_, rfl, rfl⟩, ⟨_, rfl, rfl⟩, ⟨_, rfl, rfl⟩, ⟨_, rfl, rfl⟩, ⟨_, rfl, rfl⟩, ⟨_, rfl, rfl⟩, ⟨_, rfl, rfl⟩, ⟨_, rfl, rfl⟩, ⟨_, rfl, rfl⟩, ⟨_, rfl, rfl⟩, ⟨_, rfl, rfl⟩, ⟨_, rfl, rfl⟩, ⟨_, rfl, rfl⟩, ⟨_, rfl, rfl⟩, ⟨_, rfl, rfl⟩, ⟨_, rfl, rfl⟩, ⟨_, rfl, rfl⟩, ⟨_, rfl, rfl⟩, ⟨_, rfl, rfl⟩, ⟨_, rfl, rfl⟩, ⟨_, rfl, rfl⟩, ⟨_, rfl, rfl⟩, ⟨_, rfl, rfl⟩, ⟨_, rfl, rfl⟩, trivial⟩ (by decide) rfl) ?_
  refine Tr.iret dX9_rests_23 rfl (by first | rfl | exact bI_nar _) ?_ ?_
  · rfl
  · rfl
set_option maxHeartbeats 4000000 in
set_option maxRecDepth 100000 in
theorem x_rest (E : EnvT) (ad r : Nat → Nat) (hf : Int32) (T : Tst) (V : Vil) (X : Vix) (S : Scn) (P : Nat → Nat) (L : Nat → Int32) (a : Nat) (kp : Bool) (W : Nat → Nat) (x y : Int32) (N : Nat) (hN : N = 7776) (hV : Vok V) (hS : Sle V S) (hP : Ple P) (ht : psS S < 2 ^ 30) : Md E mX9_rest ad [.ref (ad 0), .int x, .int y] (xtC E ad r hf T V X S P L a kp W) (some (.int (if (!decide (x < 0) && ixB y (npV V)) then (if x < nI (rtF N (stT T V P L S) x).1 then cl (wT (rtT N (stT T V P L S) x) (nN y)) else -2) else -2))) (xtC E ad r hf (if (!decide (x < 0) && ixB y (npV V)) then (rtT N (stT T V P L S) x) else T) V X S P L a kp W) := by
  have v1 := hV.1
  have v2 := hV.2.1
  have hT : Tok (stT T V P L S) := stT_ok hV hS hP ht
  by_cases hc : (!decide (x < 0) && ixB y (npV V)) = true
  · rw [if_pos hc, if_pos hc]
    have hc1 : ¬ x < 0 := by simpa using (Bool.and_eq_true_iff.mp hc).1
    have hc2 : ixB y (npV V) = true := (Bool.and_eq_true_iff.mp hc).2
    obtain ⟨p, hp, rfl⟩ := ixB_n v2 hc2
    rw [nN_n (show p < 2 ^ 31 by omega)]
    have eV : vT (stT T V P L S) = V := rfl
    refine Md.of 0 (by decide) rfl rfl ?_
    refine Tr.iload_n (i := 1) dX9_rest_0 rfl rfl (Eq.refl 1) ?_
    refine Tr.if_lt (tgt := 12) dX9_rest_1 (by decide) (Eq.refl 4) (fun h1 => ?_) (fun h1 => ?_)
    · exact absurd h1 hc1
    · refine Tr.aload_n (i := 0) dX9_rest_4 rfl rfl (Eq.refl 5) ?_
      refine Tr.iload_n (i := 2) dX9_rest_5 rfl rfl (Eq.refl 6) ?_
      refine Tr.callVr (L := [0, 72, 73, 74, 75, 76, 77, 78, 79, 80, 81, 82]) (x_isPerson E _ (rV ad r) hf V X (nI p)) dX9_rest_6 (kX9_134 (Nat.le_of_ble_eq_true rfl)) iX9_isPerson rfl rfl rfl rfl rfl rfl rfl rfl rfl (Eq.refl 9) ?_
      refine Tr.if_neB (tgt := 15) dX9_rest_9 (by decide) (Eq.refl 12) (fun h9 => ?_) (fun h9 => ?_)
      · refine Tr.aload_n (i := 0) dX9_rest_15 rfl rfl (Eq.refl 16) ?_
        refine Tr.getf dX9_rest_16 fX9_46 rfl rfl (Eq.refl 19) ?_
        refine Tr.aload_n (i := 0) dX9_rest_19 rfl rfl (Eq.refl 20) ?_
        refine Tr.getf dX9_rest_20 fX9_28 rfl rfl (Eq.refl 23) ?_
        refine Tr.aload_n (i := 0) dX9_rest_23 rfl rfl (Eq.refl 24) ?_
        refine Tr.getf dX9_rest_24 fX9_35 rfl rfl (Eq.refl 27) ?_
        refine Tr.callV (L := l_so) (Md.refs 29 (fun k => some (ad (1 + 36 + 7 * k))) (c_setOut E _ T V X S P L a kp W) rfl rfl (dyS ad)) dX9_rest_27 (kX9_213 (Nat.le_of_ble_eq_true rfl)) iX6_setOut rfl rfl rfl rfl rfl rfl rfl rfl rfl rfl (Eq.refl 30) ?_
        refine Tr.pic (w' := xtC E ad r hf (stT T V P L S) V X S P L a kp W) (putB_eq (Lc := [0]) 95 rfl rfl rfl rfl ⟨⟨_, rfl, rfl⟩, trivial⟩ (by decide) rfl) ?_
        generalize (stT T V P L S) = T2 at *
        refine Tr.aload_n (i := 0) dX9_rest_30 rfl rfl (Eq.refl 31) ?_
        refine Tr.getf dX9_rest_31 fX9_46 rfl rfl (Eq.refl 34) ?_
        refine Tr.iload_n (i := 1) dX9_rest_34 rfl rfl (Eq.refl 35) ?_
        refine Tr.callV (L := l_tr) (Md.refs 29 (fun k => some (ad (1 + 36 + 7 * k))) (c_findRest E _ N hN T2 x hT) rfl rfl (dyT ad)) dX9_rest_35 (kX9_229 (Nat.le_of_ble_eq_true rfl)) iX6_findRest rfl rfl rfl rfl rfl rfl rfl rfl rfl rfl (Eq.refl 38) ?_
        refine Tr.pic (w' := xtC E ad r hf (rtT N T2 x) V X S P L a kp W) (putB_eq (Lc := [0, 72, 73, 74, 75, 76, 77, 78, 79, 80, 81, 82, 83, 84, 85, 86, 87, 88, 89, 90, 91, 92, 93, 94]) 95 rfl rfl rfl rfl ⟨⟨_, rfl, rfl⟩, ⟨_, rfl, rfl⟩, ⟨_, rfl, rfl⟩, ⟨_, rfl, rfl⟩, ⟨_, rfl, rfl⟩, ⟨_, rfl, rfl⟩, ⟨_, rfl, rfl⟩, ⟨_, rfl, rfl⟩, ⟨_, rfl, rfl⟩, ⟨_, rfl, rfl⟩, ⟨_, rfl, rfl⟩, ⟨_, rfl, rfl⟩, ⟨_, rfl, rfl⟩, ⟨_, rfl, rfl⟩, ⟨_, rfl, rfl⟩, ⟨_, rfl, rfl⟩, ⟨_, rfl, rfl⟩, ⟨_, rfl, rfl⟩, ⟨_, rfl, rfl⟩, ⟨_, rfl, rfl⟩, ⟨_, rfl, rfl⟩, ⟨_, rfl, rfl⟩, ⟨_, rfl, rfl⟩, ⟨_, rfl, rfl⟩, trivial⟩ (by decide) rfl) ?_
        generalize rtT N T2 x = T3 at *
        refine Tr.iload_n (i := 1) dX9_rest_38 rfl rfl (Eq.refl 39) ?_
        refine Tr.icmp_gt (tgt := 45) dX9_rest_39 (by decide) (Eq.refl 42) (fun h39 => ?_) (fun h39 => ?_)
        · rw [if_pos h39]
          refine Tr.aload_n (i := 0) dX9_rest_45 rfl rfl (Eq.refl 46) ?_
          refine Tr.getf dX9_rest_46 fX9_46 rfl rfl (Eq.refl 49) ?_
          refine Tr.getf dX9_rest_49 fX9_232 rfl rfl (Eq.refl 52) ?_
          refine Tr.iload_n (i := 2) dX9_rest_52 rfl rfl (Eq.refl 53) ?_
          refine Tr.ialdN dX9_rest_53 rfl (by omega) (by decide) (Eq.refl 54) ?_
          refine Tr.iret dX9_rest_54 rfl (by first | rfl | exact bI_nar _) ?_ ?_
          · rfl
          · rfl
        · rw [if_neg h39]
          refine Tr.bipush (v := (-2)) dX9_rest_42 (by decide +kernel) (Eq.refl 44) ?_
          refine Tr.iret dX9_rest_44 rfl (by first | rfl | exact bI_nar _) ?_ ?_
          · rfl
          · rfl
      · exact absurd (hc2.symm.trans h9) (by decide)
  · rw [if_neg hc, if_neg hc]
    refine Md.of 0 (by decide) rfl rfl ?_
    refine Tr.iload_n (i := 1) dX9_rest_0 rfl rfl (Eq.refl 1) ?_
    refine Tr.if_lt (tgt := 12) dX9_rest_1 (by decide) (Eq.refl 4) (fun h1 => ?_) (fun h1 => ?_)
    · refine Tr.bipush (v := (-2)) dX9_rest_12 (by decide +kernel) (Eq.refl 14) ?_
      refine Tr.iret dX9_rest_14 rfl (by first | rfl | exact bI_nar _) ?_ ?_
      · rfl
      · rfl
    · refine Tr.aload_n (i := 0) dX9_rest_4 rfl rfl (Eq.refl 5) ?_
      refine Tr.iload_n (i := 2) dX9_rest_5 rfl rfl (Eq.refl 6) ?_
      refine Tr.callVr (L := [0, 72, 73, 74, 75, 76, 77, 78, 79, 80, 81, 82]) (x_isPerson E _ (rV ad r) hf V X y) dX9_rest_6 (kX9_134 (Nat.le_of_ble_eq_true rfl)) iX9_isPerson rfl rfl rfl rfl rfl rfl rfl rfl rfl (Eq.refl 9) ?_
      refine Tr.if_neB (tgt := 15) dX9_rest_9 (by decide) (Eq.refl 12) (fun h9 => ?_) (fun h9 => ?_)
      · exact absurd (by rw [h9, decide_eq_false h1]; rfl) hc
      · refine Tr.bipush (v := (-2)) dX9_rest_12 (by decide +kernel) (Eq.refl 14) ?_
        refine Tr.iret dX9_rest_14 rfl (by first | rfl | exact bI_nar _) ?_ ?_
        · rfl
        · rfl
set_option maxHeartbeats 4000000 in
set_option maxRecDepth 100000 in
theorem x_rings (E : EnvT) (ad r : Nat → Nat) (hf : Int32) (T : Tst) (V : Vil) (X : Vix) (S : Scn) (P : Nat → Nat) (L : Nat → Int32) (a : Nat) (kp : Bool) (W : Nat → Nat) (x : Int32) (N : Nat) (hN : N = 7776) (hV : Vok V) (hS : Sle V S) (hP : Ple P) (ht : psS S < 2 ^ 30) : Md E mX9_rings ad [.ref (ad 0), .int x] (xtC E ad r hf T V X S P L a kp W) (some (.int (if rgB x (nI 0) (nI 1) then (if x = nI 0 then rgT (frT N (stT T V P L S)) else lrT (frT N (stT T V P L S))) else -2))) (xtC E ad r hf (if rgB x (nI 0) (nI 1) then (frT N (stT T V P L S)) else T) V X S P L a kp W) := by
  have v1 := hV.1
  have v2 := hV.2.1
  have hT : Tok (stT T V P L S) := stT_ok hV hS hP ht
  by_cases hc : rgB x (nI 0) (nI 1) = true
  · rw [if_pos hc, if_pos hc]
    obtain ⟨k, -, hk, rfl⟩ := rgB_n (by decide) (by decide) hc
    have eV : vT (stT T V P L S) = V := rfl
    refine Md.of 0 (by decide) rfl rfl ?_
    refine Tr.iload_n (i := 1) dX9_rings_0 rfl rfl (Eq.refl 1) ?_
    refine Tr.if_lt (tgt := 9) dX9_rings_1 (by decide) (Eq.refl 4) (fun h1 => ?_) (fun h1 => ?_)
    · exact absurd h1 (nI_nneg (by omega))
    · refine Tr.iload_n (i := 1) dX9_rings_4 rfl rfl (Eq.refl 5) ?_
      refine Tr.iconst (v := nI 1) dX9_rings_5 (icN 1) (Eq.refl 6) ?_
      refine Tr.icmp_leN (tgt := 12) dX9_rings_6 (by decide) (Eq.refl 9) (by omega) (by omega) (fun h6 => ?_) (fun h6 => ?_)
      · refine Tr.aload_n (i := 0) dX9_rings_12 rfl rfl (Eq.refl 13) ?_
        refine Tr.getf dX9_rings_13 fX9_46 rfl rfl (Eq.refl 16) ?_
        refine Tr.aload_n (i := 0) dX9_rings_16 rfl rfl (Eq.refl 17) ?_
        refine Tr.getf dX9_rings_17 fX9_28 rfl rfl (Eq.refl 20) ?_
        refine Tr.aload_n (i := 0) dX9_rings_20 rfl rfl (Eq.refl 21) ?_
        refine Tr.getf dX9_rings_21 fX9_35 rfl rfl (Eq.refl 24) ?_
        refine Tr.callV (L := l_so) (Md.refs 29 (fun k => some (ad (1 + 36 + 7 * k))) (c_setOut E _ T V X S P L a kp W) rfl rfl (dyS ad)) dX9_rings_24 (kX9_213 (Nat.le_of_ble_eq_true rfl)) iX6_setOut rfl rfl rfl rfl rfl rfl rfl rfl rfl rfl (Eq.refl 27) ?_
        refine Tr.pic (w' := xtC E ad r hf (stT T V P L S) V X S P L a kp W) (putB_eq (Lc := [0]) 95 rfl rfl rfl rfl ⟨⟨_, rfl, rfl⟩, trivial⟩ (by decide) rfl) ?_
        generalize (stT T V P L S) = T2 at *
        refine Tr.aload_n (i := 0) dX9_rings_27 rfl rfl (Eq.refl 28) ?_
        refine Tr.getf dX9_rings_28 fX9_46 rfl rfl (Eq.refl 31) ?_
        refine Tr.callV (L := l_tr) (Md.refs 29 (fun k => some (ad (1 + 36 + 7 * k))) (c_findRings E _ N hN T2 hT) rfl rfl (dyT ad)) dX9_rings_31 (kX9_250 (Nat.le_of_ble_eq_true rfl)) iX6_findRings rfl rfl rfl rfl rfl rfl rfl rfl rfl rfl (Eq.refl 34) ?_
        refine Tr.pic (w' := xtC E ad r hf (frT N T2) V X S P L a kp W) (putB_eq (Lc := [0, 72, 73, 74, 75, 76, 77, 78, 79, 80, 81, 82, 83, 84, 85, 86, 87, 88, 89, 90, 91, 92, 93, 94]) 95 rfl rfl rfl rfl ⟨⟨_, rfl, rfl⟩, ⟨_, rfl, rfl⟩, ⟨_, rfl, rfl⟩, ⟨_, rfl, rfl⟩, ⟨_, rfl, rfl⟩, ⟨_, rfl, rfl⟩, ⟨_, rfl, rfl⟩, ⟨_, rfl, rfl⟩, ⟨_, rfl, rfl⟩, ⟨_, rfl, rfl⟩, ⟨_, rfl, rfl⟩, ⟨_, rfl, rfl⟩, ⟨_, rfl, rfl⟩, ⟨_, rfl, rfl⟩, ⟨_, rfl, rfl⟩, ⟨_, rfl, rfl⟩, ⟨_, rfl, rfl⟩, ⟨_, rfl, rfl⟩, ⟨_, rfl, rfl⟩, ⟨_, rfl, rfl⟩, ⟨_, rfl, rfl⟩, ⟨_, rfl, rfl⟩, ⟨_, rfl, rfl⟩, ⟨_, rfl, rfl⟩, trivial⟩ (by decide) rfl) ?_
        generalize frT N T2 = T3 at *
        refine Tr.iload_n (i := 1) dX9_rings_34 rfl rfl (Eq.refl 35) ?_
        refine Tr.if_ne (tgt := 48) dX9_rings_35 (by decide) (Eq.refl 38) (fun h35 => ?_) (fun h35 => ?_)
        · rw [if_neg (show ¬ nI k = nI 0 from h35)]
          refine Tr.aload_n (i := 0) dX9_rings_48 rfl rfl (Eq.refl 49) ?_
          refine Tr.getf dX9_rings_49 fX9_46 rfl rfl (Eq.refl 52) ?_
          refine Tr.getf dX9_rings_52 fX9_256 rfl rfl (Eq.refl 55) ?_
          refine Tr.iret dX9_rings_55 rfl (by first | rfl | exact bI_nar _) ?_ ?_
          · rfl
          · rfl
        · rw [if_pos (show nI k = nI 0 from h35)]
          refine Tr.aload_n (i := 0) dX9_rings_38 rfl rfl (Eq.refl 39) ?_
          refine Tr.getf dX9_rings_39 fX9_46 rfl rfl (Eq.refl 42) ?_
          refine Tr.getf dX9_rings_42 fX9_253 rfl rfl (Eq.refl 45) ?_
          refine Tr.goto (pc' := 55) dX9_rings_45 (by decide) ?_
          refine Tr.iret dX9_rings_55 rfl (by first | rfl | exact bI_nar _) ?_ ?_
          · rfl
          · rfl
      · exact absurd h6 (by omega)
  · rw [if_neg hc, if_neg hc]
    refine Md.of 0 (by decide) rfl rfl ?_
    refine Tr.iload_n (i := 1) dX9_rings_0 rfl rfl (Eq.refl 1) ?_
    refine Tr.if_lt (tgt := 9) dX9_rings_1 (by decide) (Eq.refl 4) (fun h1 => ?_) (fun h1 => ?_)
    · refine Tr.bipush (v := (-2)) dX9_rings_9 (by decide +kernel) (Eq.refl 11) ?_
      refine Tr.iret dX9_rings_11 rfl (by first | rfl | exact bI_nar _) ?_ ?_
      · rfl
      · rfl
    · refine Tr.iload_n (i := 1) dX9_rings_4 rfl rfl (Eq.refl 5) ?_
      refine Tr.iconst (v := nI 1) dX9_rings_5 (icN 1) (Eq.refl 6) ?_
      refine Tr.icmp_leL (tgt := 12) dX9_rings_6 (by decide) (Eq.refl 9) (fun h6 => ?_) (fun h6 => ?_)
      · exact absurd (rgB_t (a := nI 0) (b := nI 1) h1 h6) hc
      · refine Tr.bipush (v := (-2)) dX9_rings_9 (by decide +kernel) (Eq.refl 11) ?_
        refine Tr.iret dX9_rings_11 rfl (by first | rfl | exact bI_nar _) ?_ ?_
        · rfl
        · rfl
set_option maxHeartbeats 4000000 in
set_option maxRecDepth 100000 in
theorem x_settle (E : EnvT) (ad r : Nat → Nat) (hf : Int32) (T : Tst) (V : Vil) (X : Vix) (S : Scn) (P : Nat → Nat) (L : Nat → Int32) (a : Nat) (kp : Bool) (W : Nat → Nat) (hV : Vok V) (hS : Sle V S) (hP : Ple P) (ht : psS S < 2 ^ 30) : Md E mX9_settle ad [.ref (ad 0)] (xtC E ad r hf T V X S P L a kp W) (some (.int (seF 9 1 (stT T V P L S)).2)) (xtC E ad r hf (seF 9 1 (stT T V P L S)).1 V X S (pT (seF 9 1 (stT T V P L S)).1) (lT (seF 9 1 (stT T V P L S)).1) a kp W) := by
  have hT : Tok (stT T V P L S) := stT_ok hV hS hP ht
  refine Md.of 1 (by decide) rfl rfl ?_
  refine Tr.aload_n (i := 0) dX9_settle_0 rfl rfl (Eq.refl 1) ?_
  refine Tr.getf dX9_settle_1 fX9_46 rfl rfl (Eq.refl 4) ?_
  refine Tr.aload_n (i := 0) dX9_settle_4 rfl rfl (Eq.refl 5) ?_
  refine Tr.getf dX9_settle_5 fX9_28 rfl rfl (Eq.refl 8) ?_
  refine Tr.aload_n (i := 0) dX9_settle_8 rfl rfl (Eq.refl 9) ?_
  refine Tr.getf dX9_settle_9 fX9_35 rfl rfl (Eq.refl 12) ?_
  refine Tr.callV (L := l_so) (Md.refs 29 (fun k => some (ad (1 + 36 + 7 * k))) (c_setOut E _ T V X S P L a kp W) rfl rfl (dyS ad)) dX9_settle_12 (kX9_213 (Nat.le_of_ble_eq_true rfl)) iX6_setOut rfl rfl rfl rfl rfl rfl rfl rfl rfl rfl (Eq.refl 15) ?_
  refine Tr.pic (w' := xtC E ad r hf (stT T V P L S) V X S P L a kp W) (putB_eq (Lc := [0]) 95 rfl rfl rfl rfl ⟨⟨_, rfl, rfl⟩, trivial⟩ (by decide) rfl) ?_
  generalize (stT T V P L S) = T2 at *
  refine Tr.aload_n (i := 0) dX9_settle_15 rfl rfl (Eq.refl 16) ?_
  refine Tr.getf dX9_settle_16 fX9_46 rfl rfl (Eq.refl 19) ?_
  refine Tr.callV (L := l_tr) (Md.refs 29 (fun k => some (ad (1 + 36 + 7 * k))) (c_settleAll E _ T2 hT) rfl rfl (dyT ad)) dX9_settle_19 (kX9_235 (Nat.le_of_ble_eq_true rfl)) iX6_settleAll rfl rfl rfl rfl rfl rfl rfl rfl rfl rfl (Eq.refl 22) ?_
  refine Tr.pic (w' := xtC E ad r hf (seF 9 1 T2).1 V X S P L a kp W) (putB_eq (Lc := [0, 72, 73, 74, 75, 76, 77, 78, 79, 80, 81, 82, 83, 84, 85, 86, 87, 88, 89, 90, 91, 92, 93, 94]) 95 rfl rfl rfl rfl ⟨⟨_, rfl, rfl⟩, ⟨_, rfl, rfl⟩, ⟨_, rfl, rfl⟩, ⟨_, rfl, rfl⟩, ⟨_, rfl, rfl⟩, ⟨_, rfl, rfl⟩, ⟨_, rfl, rfl⟩, ⟨_, rfl, rfl⟩, ⟨_, rfl, rfl⟩, ⟨_, rfl, rfl⟩, ⟨_, rfl, rfl⟩, ⟨_, rfl, rfl⟩, ⟨_, rfl, rfl⟩, ⟨_, rfl, rfl⟩, ⟨_, rfl, rfl⟩, ⟨_, rfl, rfl⟩, ⟨_, rfl, rfl⟩, ⟨_, rfl, rfl⟩, ⟨_, rfl, rfl⟩, ⟨_, rfl, rfl⟩, ⟨_, rfl, rfl⟩, ⟨_, rfl, rfl⟩, ⟨_, rfl, rfl⟩, ⟨_, rfl, rfl⟩, trivial⟩ (by decide) rfl) ?_
  generalize seF 9 1 T2 = q at *
  refine Tr.istore_n (i := 1) dX9_settle_22 rfl rfl rfl (Eq.refl 23) ?_
  refine Tr.aload_n (i := 0) dX9_settle_23 rfl rfl (Eq.refl 24) ?_
  refine Tr.getf dX9_settle_24 fX9_35 rfl rfl (Eq.refl 27) ?_
  refine Tr.getf dX9_settle_27 fX9_157 rfl rfl (Eq.refl 30) ?_
  refine Tr.aload_n (i := 0) dX9_settle_30 rfl rfl (Eq.refl 31) ?_
  refine Tr.getf dX9_settle_31 fX9_46 rfl rfl (Eq.refl 34) ?_
  refine Tr.getf dX9_settle_34 fX9_239 rfl rfl (Eq.refl 37) ?_
  refine Tr.callV (L := [91, 92, 93, 13, 14, 15]) (c_wyCopy E _ P (pT q.1) L (lT q.1)) dX9_settle_37 (kX9_240 (Nat.le_of_ble_eq_true rfl)) iX8_copyFrom rfl rfl rfl rfl rfl rfl rfl rfl rfl rfl (Eq.refl 40) ?_
  refine Tr.pic (w' := xtC E ad r hf q.1 V X S (pT q.1) (lT q.1) a kp W) (putB_eq (Lc := [0, 1, 2, 3, 4, 5, 6, 7, 8, 9, 10, 11, 12, 16, 17, 18, 19, 20, 21, 22, 23, 24, 25, 26, 27, 28, 29, 30, 31, 32, 33, 34, 35, 36, 37, 38, 39, 40, 41, 42, 43, 44, 45, 46, 47, 48, 49, 50, 51, 52, 53, 54, 55, 56, 57, 58, 59, 60, 61, 62, 63, 64, 65, 66, 67, 68, 69, 70, 71, 72, 73, 74, 75, 76, 77, 78, 79, 80, 81, 82, 83, 84, 85, 86, 87, 88, 89, 90, 94]) 95 rfl rfl rfl rfl ⟨⟨_, rfl, rfl⟩, ⟨_, rfl, rfl⟩, ⟨_, rfl, rfl⟩, ⟨_, rfl, rfl⟩, ⟨_, rfl, rfl⟩, ⟨_, rfl, rfl⟩, ⟨_, rfl, rfl⟩, ⟨_, rfl, rfl⟩, ⟨_, rfl, rfl⟩, ⟨_, rfl, rfl⟩, ⟨_, rfl, rfl⟩, ⟨_, rfl, rfl⟩, ⟨_, rfl, rfl⟩, ⟨_, rfl, rfl⟩, ⟨_, rfl, rfl⟩, ⟨_, rfl, rfl⟩, ⟨_, rfl, rfl⟩, ⟨_, rfl, rfl⟩, ⟨_, rfl, rfl⟩, ⟨_, rfl, rfl⟩, ⟨_, rfl, rfl⟩, ⟨_, rfl, rfl⟩, ⟨_, rfl, rfl⟩, ⟨_, rfl, rfl⟩, ⟨_, rfl, rfl⟩, ⟨_, rfl, rfl⟩, ⟨_, rfl, rfl⟩, ⟨_, rfl, rfl⟩, ⟨_, rfl, rfl⟩, ⟨_, rfl, rfl⟩, ⟨_, rfl, rfl⟩, ⟨_, rfl, rfl⟩, ⟨_, rfl, rfl⟩, ⟨_, rfl, rfl⟩, ⟨_, rfl, rfl⟩, ⟨_, rfl, rfl⟩, ⟨_, rfl, rfl⟩, ⟨_, rfl, rfl⟩, ⟨_, rfl, rfl⟩, ⟨_, rfl, rfl⟩, ⟨_, rfl, rfl⟩, ⟨_, rfl, rfl⟩, ⟨_, rfl, rfl⟩, ⟨_, rfl, rfl⟩, ⟨_, rfl, rfl⟩, ⟨_, rfl, rfl⟩, ⟨_, rfl, rfl⟩, ⟨_, rfl, rfl⟩, ⟨_, rfl, rfl⟩, ⟨_, rfl, rfl⟩, ⟨_, rfl, rfl⟩, ⟨_, rfl, rfl⟩, ⟨_, rfl, rfl⟩, ⟨_, rfl, rfl⟩, ⟨_, rfl, rfl⟩, ⟨_, rfl, rfl⟩, ⟨_, rfl, rfl⟩, ⟨_, rfl, rfl⟩, ⟨_, rfl, rfl⟩, ⟨_, rfl, rfl⟩, ⟨_, rfl, rfl⟩, ⟨_, rfl, rfl⟩, ⟨_, rfl, rfl⟩, ⟨_, rfl, rfl⟩, ⟨_, rfl, rfl⟩, ⟨_, rfl, rfl⟩, ⟨_, rfl, rfl⟩, ⟨_, rfl, rfl⟩, ⟨_, rfl, rfl⟩, ⟨_, rfl, rfl⟩, ⟨_, rfl, rfl⟩, ⟨_, rfl, rfl⟩, ⟨_, rfl, rfl⟩, ⟨_, rfl, rfl⟩, ⟨_, rfl, rfl⟩, ⟨_, rfl, rfl⟩, ⟨_, rfl, rfl⟩, ⟨_, rfl, rfl⟩, ⟨_, rfl, rfl⟩, ⟨_, rfl, rfl⟩, ⟨_, rfl, rfl⟩, ⟨_, rfl, rfl⟩, ⟨_, rfl, rfl⟩, ⟨_, rfl, rfl⟩, ⟨_, rfl, rfl⟩, ⟨_, rfl, rfl⟩, ⟨_, rfl, rfl⟩, ⟨_, rfl, rfl⟩, ⟨_, rfl, rfl⟩, trivial⟩ (by decide) rfl) ?_
  refine Tr.iload_n (i := 1) dX9_settle_40 rfl rfl (Eq.refl 41) ?_
  refine Tr.iret dX9_settle_41 rfl (by first | rfl | exact bI_nar _) ?_ ?_
  · rfl
  · rfl
