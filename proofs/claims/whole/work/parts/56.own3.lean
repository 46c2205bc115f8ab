/-! OwnedByGuests: what a text told, quarters -/
/-- object, course, village -/
def xnC (E : EnvT) (ad r : Nat → Nat) (hf : Int32) (S : Scn) (P : Nat → Nat) (L : Nat → Int32) (a : Nat) (kp : Bool) (W : Nat → Nat) (V : Vil) (X : Vix) : List va_E := (.inr (9, [.ref (r 0), .ref (r 1), .ref (ad 13), .ref (ad 1), .ref (r 4), .ref (r 5), .ref (r 6), .ref (r 7), .int hf]) : va_E) :: (coC E ad 1 S P L a kp W ++ viC E ad 13 V X)
def rN (ad r : Nat → Nat) (k : Nat) : Nat := if k = 3 then ad 1 else r k
/-- what was told of a house, of a person, by row -/
def thA (V : Vil) (X : Vix) (n h : Nat) : Int32 := if h < nhV V then (if n = 1 then X.2.2.2.2.1 h else if n = 2 then woV V h else if n = 3 then X.2.2.2.2.2.1 h else cl (owV V h)) else -1
def tpA (V : Vil) (n p : Nat) : Int32 := if p < npV V then (if n = 5 then cl (hoV V p) else wkV V p) else -1
theorem ixB_i {k n : Nat} (hk : k < 2 ^ 31) (hn : n < 2 ^ 31) : ixB (nI k) n = decide (k < n) := by
  unfold ixB
  rw [decide_eq_false (nI_nneg hk), decide_eq_decide.mpr (nI_lt_iff hk hn)]
  rfl
set_option maxHeartbeats 4000000 in
set_option maxRecDepth 100000 in
theorem x_toldOfHouse (E : EnvT) (ad r : Nat → Nat) (hf : Int32) (V : Vil) (X : Vix) (n h : Nat) (hV : Vok V) (hn : n < 10) (hh : h < 10) : Md E mX9_toldOfHouse ad [.ref (ad 0), .int (nI n), .int (nI h)] (xvC E ad r hf V X) (some (.int (thA V X n h))) (xvC E ad r hf V X) := by
  have v1 := hV.1
  have hx := ixB_i (k := h) (n := nhV V) (by omega) (by omega)
  unfold thA
  by_cases hc : h < nhV V
  · rw [if_pos hc]
    rw [decide_eq_true hc] at hx
    refine Md.of 0 (by decide) rfl rfl ?_
    refine Tr.aload_n (i := 0) dX9_toldOfHouse_0 rfl rfl (Eq.refl 1) ?_
    refine Tr.iload_n (i := 2) dX9_toldOfHouse_1 rfl rfl (Eq.refl 2) ?_
    refine Tr.callVs (x_isHouse E ad r hf V X (nI h)) dX9_toldOfHouse_2 (kX9_118 (Nat.le_of_ble_eq_true rfl)) iX9_isHouse rfl rfl rfl rfl rfl (Nat.le_refl _) rfl rfl (Eq.refl 5) ?_
    refine Tr.if_neB (tgt := 10) dX9_toldOfHouse_5 (by decide) (Eq.refl 8) (fun h5 => ?_) (fun h5 => ?_)
    · refine Tr.iload_n (i := 1) dX9_toldOfHouse_10 rfl rfl (Eq.refl 11) ?_
      by_cases h11_1 : nI n = nI 1
      · refine Tr.tsIn (off := 25) (tgt := 36) dX9_toldOfHouse_11 (by rw [h11_1]; decide) (by rw [h11_1]; decide) (by rw [h11_1]; rfl) (by decide) ?_
        rw [if_pos ((nI_eq_iff (by omega) (by decide)).mp h11_1)]
        refine Tr.aload_n (i := 0) dX9_toldOfHouse_36 rfl rfl (Eq.refl 37) ?_
        refine Tr.getf dX9_toldOfHouse_37 fX9_28 rfl rfl (Eq.refl 40) ?_
        refine Tr.getf dX9_toldOfHouse_40 fX9_122 rfl rfl (Eq.refl 43) ?_
        refine Tr.iload_n (i := 2) dX9_toldOfHouse_43 rfl rfl (Eq.refl 44) ?_
        refine Tr.ialdN dX9_toldOfHouse_44 rfl (by omega) (by decide) (Eq.refl 45) ?_
        refine Tr.iret dX9_toldOfHouse_45 rfl (by first | rfl | exact bI_nar _) ?_ ?_
        · rfl
        · rfl
      by_cases h11_2 : nI n = nI 2
      · refine Tr.tsIn (off := 35) (tgt := 46) dX9_toldOfHouse_11 (by rw [h11_2]; decide) (by rw [h11_2]; decide) (by rw [h11_2]; rfl) (by decide) ?_
        rw [if_neg (fun z9 => h11_1 (by rw [z9])), if_pos ((nI_eq_iff (by omega) (by decide)).mp h11_2)]
        refine Tr.aload_n (i := 0) dX9_toldOfHouse_46 rfl rfl (Eq.refl 47) ?_
        refine Tr.getf dX9_toldOfHouse_47 fX9_28 rfl rfl (Eq.refl 50) ?_
        refine Tr.getf dX9_toldOfHouse_50 fX9_125 rfl rfl (Eq.refl 53) ?_
        refine Tr.iload_n (i := 2) dX9_toldOfHouse_53 rfl rfl (Eq.refl 54) ?_
        refine Tr.ialdN dX9_toldOfHouse_54 rfl (by omega) (by decide) (Eq.refl 55) ?_
        refine Tr.iret dX9_toldOfHouse_55 rfl (by first | rfl | exact bI_nar _) ?_ ?_
        · rfl
        · rfl
      by_cases h11_3 : nI n = nI 3
      · refine Tr.tsIn (off := 45) (tgt := 56) dX9_toldOfHouse_11 (by rw [h11_3]; decide) (by rw [h11_3]; decide) (by rw [h11_3]; rfl) (by decide) ?_
        rw [if_neg (fun z9 => h11_1 (by rw [z9])), if_neg (fun z9 => h11_2 (by rw [z9])), if_pos ((nI_eq_iff (by omega) (by decide)).mp h11_3)]
        refine Tr.aload_n (i := 0) dX9_toldOfHouse_56 rfl rfl (Eq.refl 57) ?_
        refine Tr.getf dX9_toldOfHouse_57 fX9_28 rfl rfl (Eq.refl 60) ?_
        refine Tr.getf dX9_toldOfHouse_60 fX9_128 rfl rfl (Eq.refl 63) ?_
        refine Tr.iload_n (i := 2) dX9_toldOfHouse_63 rfl rfl (Eq.refl 64) ?_
        refine Tr.ialdN dX9_toldOfHouse_64 rfl (by omega) (by decide) (Eq.refl 65) ?_
        refine Tr.iret dX9_toldOfHouse_65 rfl (by first | rfl | exact bI_nar _) ?_ ?_
        · rfl
        · rfl
      refine Tr.tsOut (tgt := 66) dX9_toldOfHouse_11 (by by_cases hA : (nI n).toInt < 1 ∨ 3 < (nI n).toInt; exact hA; exfalso; rcases (show (nI n).toInt = 1 ∨ (nI n).toInt = 2 ∨ (nI n).toInt = 3 by omega) with hB | hB | hB; exact h11_1 (sw_e (k := 1) (by decide) hB); exact h11_2 (sw_e (k := 2) (by decide) hB); exact h11_3 (sw_e (k := 3) (by decide) hB)) (by decide) ?_
      rw [if_neg (fun z9 => h11_1 (by rw [z9])), if_neg (fun z9 => h11_2 (by rw [z9])), if_neg (fun z9 => h11_3 (by rw [z9]))]
      refine Tr.aload_n (i := 0) dX9_toldOfHouse_66 rfl rfl (Eq.refl 67) ?_
      refine Tr.getf dX9_toldOfHouse_67 fX9_28 rfl rfl (Eq.refl 70) ?_
      refine Tr.getf dX9_toldOfHouse_70 fX9_131 rfl rfl (Eq.refl 73) ?_
      refine Tr.iload_n (i := 2) dX9_toldOfHouse_73 rfl rfl (Eq.refl 74) ?_
      refine Tr.ialdN dX9_toldOfHouse_74 rfl (by omega) (by decide) (Eq.refl 75) ?_
      refine Tr.iret dX9_toldOfHouse_75 rfl (by first | rfl | exact bI_nar _) ?_ ?_
      · rfl
      · rfl
    · exact absurd (hx.symm.trans h5) (by decide)
  · rw [if_neg hc]
    rw [decide_eq_false hc] at hx
    refine Md.of 0 (by decide) rfl rfl ?_
    refine Tr.aload_n (i := 0) dX9_toldOfHouse_0 rfl rfl (Eq.refl 1) ?_
    refine Tr.iload_n (i := 2) dX9_toldOfHouse_1 rfl rfl (Eq.refl 2) ?_
    refine Tr.callVs (x_isHouse E ad r hf V X (nI h)) dX9_toldOfHouse_2 (kX9_118 (Nat.le_of_ble_eq_true rfl)) iX9_isHouse rfl rfl rfl rfl rfl (Nat.le_refl _) rfl rfl (Eq.refl 5) ?_
    refine Tr.if_neB (tgt := 10) dX9_toldOfHouse_5 (by decide) (Eq.refl 8) (fun h5 => ?_) (fun h5 => ?_)
    · exact absurd (hx.symm.trans h5) (by decide)
    · refine Tr.iconst (v := (-1)) dX9_toldOfHouse_8 (by decide +kernel) (Eq.refl 9) ?_
      refine Tr.iret dX9_toldOfHouse_9 rfl (by first | rfl | exact bI_nar _) ?_ ?_
      · rfl
      · rfl
set_option maxHeartbeats 4000000 in
set_option maxRecDepth 100000 in
theorem x_toldOfPerson (E : EnvT) (ad r : Nat → Nat) (hf : Int32) (V : Vil) (X : Vix) (n p : Nat) (hV : Vok V) (hn : n < 10) (hp : p < 10) : Md E mX9_toldOfPerson ad [.ref (ad 0), .int (nI n), .int (nI p)] (xvC E ad r hf V X) (some (.int (tpA V n p))) (xvC E ad r hf V X) := by
  have v2 := hV.2.1
  have hx := ixB_i (k := p) (n := npV V) (by omega) (by omega)
  unfold tpA
  by_cases hc : p < npV V
  · rw [if_pos hc]
    rw [decide_eq_true hc] at hx
    refine Md.of 0 (by decide) rfl rfl ?_
    refine Tr.aload_n (i := 0) dX9_toldOfPerson_0 rfl rfl (Eq.refl 1) ?_
    refine Tr.iload_n (i := 2) dX9_toldOfPerson_1 rfl rfl (Eq.refl 2) ?_
    refine Tr.callVs (x_isPerson E ad r hf V X (nI p)) dX9_toldOfPerson_2 (kX9_134 (Nat.le_of_ble_eq_true rfl)) iX9_isPerson rfl rfl rfl rfl rfl (Nat.le_refl _) rfl rfl (Eq.refl 5) ?_
    refine Tr.if_neB (tgt := 10) dX9_toldOfPerson_5 (by decide) (Eq.refl 8) (fun h5 => ?_) (fun h5 => ?_)
    · refine Tr.iload_n (i := 1) dX9_toldOfPerson_10 rfl rfl (Eq.refl 11) ?_
      refine Tr.iconst (v := nI 5) dX9_toldOfPerson_11 (icN 5) (Eq.refl 12) ?_
      refine Tr.icmp_neN (tgt := 27) dX9_toldOfPerson_12 (by decide) (Eq.refl 15) (by omega) (by omega) (fun h12 => ?_) (fun h12 => ?_)
      · rw [if_neg h12]
        refine Tr.aload_n (i := 0) dX9_toldOfPerson_27 rfl rfl (Eq.refl 28) ?_
        refine Tr.getf dX9_toldOfPerson_28 fX9_28 rfl rfl (Eq.refl 31) ?_
        refine Tr.getf dX9_toldOfPerson_31 fX9_140 rfl rfl (Eq.refl 34) ?_
        refine Tr.iload_n (i := 2) dX9_toldOfPerson_34 rfl rfl (Eq.refl 35) ?_
        refine Tr.ialdN dX9_toldOfPerson_35 rfl (by omega) (by decide) (Eq.refl 36) ?_
        refine Tr.iret dX9_toldOfPerson_36 rfl (by first | rfl | exact bI_nar _) ?_ ?_
        · rfl
        · rfl
      · rw [if_pos h12]
        refine Tr.aload_n (i := 0) dX9_toldOfPerson_15 rfl rfl (Eq.refl 16) ?_
        refine Tr.getf dX9_toldOfPerson_16 fX9_28 rfl rfl (Eq.refl 19) ?_
        refine Tr.getf dX9_toldOfPerson_19 fX9_137 rfl rfl (Eq.refl 22) ?_
        refine Tr.iload_n (i := 2) dX9_toldOfPerson_22 rfl rfl (Eq.refl 23) ?_
        refine Tr.ialdN dX9_toldOfPerson_23 rfl (by omega) (by decide) (Eq.refl 24) ?_
        refine Tr.goto (pc' := 36) dX9_toldOfPerson_24 (by decide) ?_
        refine Tr.iret dX9_toldOfPerson_36 rfl (by first | rfl | exact bI_nar _) ?_ ?_
        · rfl
        · rfl
    · exact absurd (hx.symm.trans h5) (by decide)
  · rw [if_neg hc]
    rw [decide_eq_false hc] at hx
    refine Md.of 0 (by decide) rfl rfl ?_
    refine Tr.aload_n (i := 0) dX9_toldOfPerson_0 rfl rfl (Eq.refl 1) ?_
    refine Tr.iload_n (i := 2) dX9_toldOfPerson_1 rfl rfl (Eq.refl 2) ?_
    refine Tr.callVs (x_isPerson E ad r hf V X (nI p)) dX9_toldOfPerson_2 (kX9_134 (Nat.le_of_ble_eq_true rfl)) iX9_isPerson rfl rfl rfl rfl rfl (Nat.le_refl _) rfl rfl (Eq.refl 5) ?_
    refine Tr.if_neB (tgt := 10) dX9_toldOfPerson_5 (by decide) (Eq.refl 8) (fun h5 => ?_) (fun h5 => ?_)
    · exact absurd (hx.symm.trans h5) (by decide)
    · refine Tr.iconst (v := (-1)) dX9_toldOfPerson_8 (by decide +kernel) (Eq.refl 9) ?_
      refine Tr.iret dX9_toldOfPerson_9 rfl (by first | rfl | exact bI_nar _) ?_ ?_
      · rfl
      · rfl
/-- what was told, as the class says it -/
def toC (V : Vil) (X : Vix) (x : Int32) : Int32 :=
  if x = nI 0 then nI (nhV V) else if x = nI 1 then nI (npV V) else if rgB x (nI 2) (nI 7) then ruV V (nN x - 2) else if x = nI 8 then bI (laV V)
  else if rgB x (nI 10) (nI 69) then (if nN x < 50 then thA V X (nN x / 10) (nN x % 10) else tpA V (nN x / 10) (nN x % 10)) else -1
theorem rg_in {x : Int32} {a b : Nat} (ha : a < 2 ^ 31) (hb : b + 1 < 2 ^ 31) (h1 : ¬ x < nI a) (h2 : x < nI (b + 1)) : rgB x (nI a) (nI b) = true := by
  apply rgB_t h1
  rw [Int32.lt_iff_toInt_lt, nI_toInt (by omega)] at h2 ⊢
  omega
set_option maxHeartbeats 4000000 in
set_option maxRecDepth 100000 in
theorem x_told (E : EnvT) (ad r : Nat → Nat) (hf : Int32) (V : Vil) (X : Vix) (x : Int32) (hV : Vok V) : Md E mX9_told ad [.ref (ad 0), .int x] (xvC E ad r hf V X) (some (.int (toC V X x))) (xvC E ad r hf V X) := by
  have v1 := hV.1
  have v2 := hV.2.1
  unfold toC
  by_cases hc1 : rgB x (nI 2) (nI 7) = true
  · obtain ⟨n, hn1, hn, rfl⟩ := rgB_n (by decide) (by decide) hc1
    rw [if_neg (fun z9 => absurd ((nI_eq_iff (by omega) (by decide)).mp z9) (by omega)), if_neg (fun z9 => absurd ((nI_eq_iff (by omega) (by decide)).mp z9) (by omega)), if_pos hc1, nN_n (by omega)]
    refine Md.of 1 (by decide) rfl rfl ?_
    refine Tr.iload_n (i := 1) dX9_told_0 rfl rfl (Eq.refl 1) ?_
    refine Tr.if_ne (tgt := 12) dX9_told_1 (by decide) (Eq.refl 4) (fun h1 => ?_) (fun h1 => ?_)
    · refine Tr.iload_n (i := 1) dX9_told_12 rfl rfl (Eq.refl 13) ?_
      refine Tr.iconst (v := nI 1) dX9_told_13 (icN 1) (Eq.refl 14) ?_
      refine Tr.icmp_neN (tgt := 25) dX9_told_14 (by decide) (Eq.refl 17) (by omega) (by omega) (fun h14 => ?_) (fun h14 => ?_)
      · refine Tr.iload_n (i := 1) dX9_told_25 rfl rfl (Eq.refl 26) ?_
        refine Tr.iconst (v := nI 2) dX9_told_26 (icN 2) (Eq.refl 27) ?_
        refine Tr.icmp_ltN (tgt := 48) dX9_told_27 (by decide) (Eq.refl 30) (by omega) (by omega) (fun h27 => ?_) (fun h27 => ?_)
        · exact absurd h27 (by omega)
        · refine Tr.iload_n (i := 1) dX9_told_30 rfl rfl (Eq.refl 31) ?_
          refine Tr.bipush (v := nI 8) dX9_told_31 (by decide +kernel) (Eq.refl 33) ?_
          refine Tr.icmp_geN (tgt := 48) dX9_told_33 (by decide) (Eq.refl 36) (by omega) (by omega) (fun h33 => ?_) (fun h33 => ?_)
          · exact absurd h33 (by omega)
          · refine Tr.aload_n (i := 0) dX9_told_36 rfl rfl (Eq.refl 37) ?_
            refine Tr.getf dX9_told_37 fX9_28 rfl rfl (Eq.refl 40) ?_
            refine Tr.getf dX9_told_40 fX9_105 rfl rfl (Eq.refl 43) ?_
            refine Tr.iload_n (i := 1) dX9_told_43 rfl rfl (Eq.refl 44) ?_
            refine Tr.iconst (v := nI 2) dX9_told_44 (icN 2) (Eq.refl 45) ?_
            refine Tr.isub dX9_told_45 (Eq.refl 46) ?_
            rw [pk_sub hn1]
            refine Tr.ialdN dX9_told_46 rfl (by omega) (by decide) (Eq.refl 47) ?_
            refine Tr.iret dX9_told_47 rfl (by first | rfl | exact bI_nar _) ?_ ?_
            · rfl
            · rfl
      · exact absurd h14 (by omega)
    · exact absurd ((nI_eq_iff (b := 0) (by omega) (by decide)).mp h1) (by omega)
  · rw [if_neg hc1]
    by_cases hc2 : rgB x (nI 10) (nI 69) = true
    · obtain ⟨n, hn1, hn, rfl⟩ := rgB_n (by decide) (by decide) hc2
      rw [if_neg (fun z9 => absurd ((nI_eq_iff (by omega) (by decide)).mp z9) (by omega)), if_neg (fun z9 => absurd ((nI_eq_iff (by omega) (by decide)).mp z9) (by omega)), if_neg (fun z9 => absurd ((nI_eq_iff (by omega) (by decide)).mp z9) (by omega)), if_pos hc2, nN_n (by omega)]
      refine Md.of 1 (by decide) rfl rfl ?_
      refine Tr.iload_n (i := 1) dX9_told_0 rfl rfl (Eq.refl 1) ?_
      refine Tr.if_ne (tgt := 12) dX9_told_1 (by decide) (Eq.refl 4) (fun h1 => ?_) (fun h1 => ?_)
      · refine Tr.iload_n (i := 1) dX9_told_12 rfl rfl (Eq.refl 13) ?_
        refine Tr.iconst (v := nI 1) dX9_told_13 (icN 1) (Eq.refl 14) ?_
        refine Tr.icmp_neN (tgt := 25) dX9_told_14 (by decide) (Eq.refl 17) (by omega) (by omega) (fun h14 => ?_) (fun h14 => ?_)
        · refine Tr.iload_n (i := 1) dX9_told_25 rfl rfl (Eq.refl 26) ?_
          refine Tr.iconst (v := nI 2) dX9_told_26 (icN 2) (Eq.refl 27) ?_
          refine Tr.icmp_ltN (tgt := 48) dX9_told_27 (by decide) (Eq.refl 30) (by omega) (by omega) (fun h27 => ?_) (fun h27 => ?_)
          · exact absurd h27 (by omega)
          · refine Tr.iload_n (i := 1) dX9_told_30 rfl rfl (Eq.refl 31) ?_
            refine Tr.bipush (v := nI 8) dX9_told_31 (by decide +kernel) (Eq.refl 33) ?_
            refine Tr.icmp_geN (tgt := 48) dX9_told_33 (by decide) (Eq.refl 36) (by omega) (by omega) (fun h33 => ?_) (fun h33 => ?_)
            · refine Tr.iload_n (i := 1) dX9_told_48 rfl rfl (Eq.refl 49) ?_
              refine Tr.bipush (v := nI 8) dX9_told_49 (by decide +kernel) (Eq.refl 51) ?_
              refine Tr.icmp_neN (tgt := 70) dX9_told_51 (by decide) (Eq.refl 54) (by omega) (by omega) (fun h51 => ?_) (fun h51 => ?_)
              · refine Tr.iload_n (i := 1) dX9_told_70 rfl rfl (Eq.refl 71) ?_
                refine Tr.bipush (v := nI 10) dX9_told_71 (by decide +kernel) (Eq.refl 73) ?_
                refine Tr.icmp_ltN (tgt := 82) dX9_told_73 (by decide) (Eq.refl 76) (by omega) (by omega) (fun h73 => ?_) (fun h73 => ?_)
                · exact absurd h73 (by omega)
                · refine Tr.iload_n (i := 1) dX9_told_76 rfl rfl (Eq.refl 77) ?_
                  refine Tr.bipush (v := nI 70) dX9_told_77 (by decide +kernel) (Eq.refl 79) ?_
                  refine Tr.icmp_ltN (tgt := 84) dX9_told_79 (by decide) (Eq.refl 82) (by omega) (by omega) (fun h79 => ?_) (fun h79 => ?_)
                  · refine Tr.iload_n (i := 1) dX9_told_84 rfl rfl (Eq.refl 85) ?_
                    refine Tr.bipush (v := nI 10) dX9_told_85 (by decide +kernel) (Eq.refl 87) ?_
                    refine Tr.irem dX9_told_87 (by decide +kernel) (Eq.refl 88) ?_
                    rw [pk_rem (by omega) (by decide) (by decide)]
                    refine Tr.istore_n (i := 2) dX9_told_88 rfl rfl rfl (Eq.refl 89) ?_
                    refine Tr.iload_n (i := 1) dX9_told_89 rfl rfl (Eq.refl 90) ?_
                    refine Tr.bipush (v := nI 50) dX9_told_90 (by decide +kernel) (Eq.refl 92) ?_
                    refine Tr.icmp_geN (tgt := 107) dX9_told_92 (by decide) (Eq.refl 95) (by omega) (by omega) (fun h92 => ?_) (fun h92 => ?_)
                    · rw [if_neg (by omega)]
                      refine Tr.aload_n (i := 0) dX9_told_107 rfl rfl (Eq.refl 108) ?_
                      refine Tr.iload_n (i := 1) dX9_told_108 rfl rfl (Eq.refl 109) ?_
                      refine Tr.bipush (v := nI 10) dX9_told_109 (by decide +kernel) (Eq.refl 111) ?_
                      refine Tr.idiv dX9_told_111 (by decide +kernel) (Eq.refl 112) ?_
                      rw [pk_div (by omega) (by decide) (by decide)]
                      refine Tr.iload_n (i := 2) dX9_told_112 rfl rfl (Eq.refl 113) ?_
                      refine Tr.callVs (x_toldOfPerson E ad r hf V X (n / 10) (n % 10) hV (by omega) (by omega)) dX9_told_113 (kX9_115 (Nat.le_of_ble_eq_true rfl)) iX9_toldOfPerson rfl rfl rfl rfl rfl (Nat.le_refl _) rfl rfl (Eq.refl 116) ?_
                      refine Tr.iret dX9_told_116 rfl (by first | rfl | exact bI_nar _) ?_ ?_
                      · rfl
                      · rfl
                    · rw [if_pos (by omega)]
                      refine Tr.aload_n (i := 0) dX9_told_95 rfl rfl (Eq.refl 96) ?_
                      refine Tr.iload_n (i := 1) dX9_told_96 rfl rfl (Eq.refl 97) ?_
                      refine Tr.bipush (v := nI 10) dX9_told_97 (by decide +kernel) (Eq.refl 99) ?_
                      refine Tr.idiv dX9_told_99 (by decide +kernel) (Eq.refl 100) ?_
                      rw [pk_div (by omega) (by decide) (by decide)]
                      refine Tr.iload_n (i := 2) dX9_told_100 rfl rfl (Eq.refl 101) ?_
                      refine Tr.callVs (x_toldOfHouse E ad r hf V X (n / 10) (n % 10) hV (by omega) (by omega)) dX9_told_101 (kX9_111 (Nat.le_of_ble_eq_true rfl)) iX9_toldOfHouse rfl rfl rfl rfl rfl (Nat.le_refl _) rfl rfl (Eq.refl 104) ?_
                      refine Tr.goto (pc' := 116) dX9_told_104 (by decide) ?_
                      refine Tr.iret dX9_told_116 rfl (by first | rfl | exact bI_nar _) ?_ ?_
                      · rfl
                      · rfl
                  · exact absurd h79 (by omega)
              · exact absurd h51 (by omega)
            · exact absurd h33 (by omega)
        · exact absurd h14 (by omega)
      · exact absurd ((nI_eq_iff (b := 0) (by omega) (by decide)).mp h1) (by omega)
    · rw [if_neg hc2]
      refine Md.of 1 (by decide) rfl rfl ?_
      refine Tr.iload_n (i := 1) dX9_told_0 rfl rfl (Eq.refl 1) ?_
      refine Tr.if_ne (tgt := 12) dX9_told_1 (by decide) (Eq.refl 4) (fun h1 => ?_) (fun h1 => ?_)
      · rw [if_neg (show ¬ x = nI 0 from h1)]
        refine Tr.iload_n (i := 1) dX9_told_12 rfl rfl (Eq.refl 13) ?_
        refine Tr.iconst (v := nI 1) dX9_told_13 (icN 1) (Eq.refl 14) ?_
        refine Tr.icmp_ne (tgt := 25) dX9_told_14 (by decide) (Eq.refl 17) (fun h14 => ?_) (fun h14 => ?_)
        · rw [if_neg h14]
          refine Tr.iload_n (i := 1) dX9_told_25 rfl rfl (Eq.refl 26) ?_
          refine Tr.iconst (v := nI 2) dX9_told_26 (icN 2) (Eq.refl 27) ?_
          refine Tr.icmp_lt (tgt := 48) dX9_told_27 (by decide) (Eq.refl 30) (fun h27 => ?_) (fun h27 => ?_)
          · refine Tr.iload_n (i := 1) dX9_told_48 rfl rfl (Eq.refl 49) ?_
            refine Tr.bipush (v := nI 8) dX9_told_49 (by decide +kernel) (Eq.refl 51) ?_
            refine Tr.icmp_ne (tgt := 70) dX9_told_51 (by decide) (Eq.refl 54) (fun h51 => ?_) (fun h51 => ?_)
            · rw [if_neg h51]
              refine Tr.iload_n (i := 1) dX9_told_70 rfl rfl (Eq.refl 71) ?_
              refine Tr.bipush (v := nI 10) dX9_told_71 (by decide +kernel) (Eq.refl 73) ?_
              refine Tr.icmp_lt (tgt := 82) dX9_told_73 (by decide) (Eq.refl 76) (fun h73 => ?_) (fun h73 => ?_)
              · refine Tr.iconst (v := (-1)) dX9_told_82 (by decide +kernel) (Eq.refl 83) ?_
                refine Tr.iret dX9_told_83 rfl (by first | rfl | exact bI_nar _) ?_ ?_
                · rfl
                · rfl
              · refine Tr.iload_n (i := 1) dX9_told_76 rfl rfl (Eq.refl 77) ?_
                refine Tr.bipush (v := nI 70) dX9_told_77 (by decide +kernel) (Eq.refl 79) ?_
                refine Tr.icmp_lt (tgt := 84) dX9_told_79 (by decide) (Eq.refl 82) (fun h79 => ?_) (fun h79 => ?_)
                · exact absurd (rg_in (a := 10) (b := 69) (by decide) (by decide) h73 h79) hc2
                · refine Tr.iconst (v := (-1)) dX9_told_82 (by decide +kernel) (Eq.refl 83) ?_
                  refine Tr.iret dX9_told_83 rfl (by first | rfl | exact bI_nar _) ?_ ?_
                  · rfl
                  · rfl
            · rw [if_pos h51]
              refine Tr.aload_n (i := 0) dX9_told_54 rfl rfl (Eq.refl 55) ?_
              refine Tr.getf dX9_told_55 fX9_28 rfl rfl (Eq.refl 58) ?_
              refine Tr.getf dX9_told_58 fX9_108 rfl rfl (Eq.refl 61) ?_
              refine Tr.if_eqB (tgt := 68) dX9_told_61 (by decide) (Eq.refl 64) (fun h61 => ?_) (fun h61 => ?_)
              · rw [h61]
                refine Tr.iconst (v := nI 0) dX9_told_68 (icN 0) (Eq.refl 69) ?_
                refine Tr.iret dX9_told_69 rfl (by first | rfl | exact bI_nar _) ?_ ?_
                · rfl
                · rfl
              · rw [h61]
                refine Tr.iconst (v := nI 1) dX9_told_64 (icN 1) (Eq.refl 65) ?_
                refine Tr.goto (pc' := 69) dX9_told_65 (by decide) ?_
                refine Tr.iret dX9_told_69 rfl (by first | rfl | exact bI_nar _) ?_ ?_
                · rfl
                · rfl
          · refine Tr.iload_n (i := 1) dX9_told_30 rfl rfl (Eq.refl 31) ?_
            refine Tr.bipush (v := nI 8) dX9_told_31 (by decide +kernel) (Eq.refl 33) ?_
            refine Tr.icmp_geL (tgt := 48) dX9_told_33 (by decide) (Eq.refl 36) (fun h33 => ?_) (fun h33 => ?_)
            · refine Tr.iload_n (i := 1) dX9_told_48 rfl rfl (Eq.refl 49) ?_
              refine Tr.bipush (v := nI 8) dX9_told_49 (by decide +kernel) (Eq.refl 51) ?_
              refine Tr.icmp_ne (tgt := 70) dX9_told_51 (by decide) (Eq.refl 54) (fun h51 => ?_) (fun h51 => ?_)
              · rw [if_neg h51]
                refine Tr.iload_n (i := 1) dX9_told_70 rfl rfl (Eq.refl 71) ?_
                refine Tr.bipush (v := nI 10) dX9_told_71 (by decide +kernel) (Eq.refl 73) ?_
                refine Tr.icmp_lt (tgt := 82) dX9_told_73 (by decide) (Eq.refl 76) (fun h73 => ?_) (fun h73 => ?_)
                · refine Tr.iconst (v := (-1)) dX9_told_82 (by decide +kernel) (Eq.refl 83) ?_
                  refine Tr.iret dX9_told_83 rfl (by first | rfl | exact bI_nar _) ?_ ?_
                  · rfl
                  · rfl
                · refine Tr.iload_n (i := 1) dX9_told_76 rfl rfl (Eq.refl 77) ?_
                  refine Tr.bipush (v := nI 70) dX9_told_77 (by decide +kernel) (Eq.refl 79) ?_
                  refine Tr.icmp_lt (tgt := 84) dX9_told_79 (by decide) (Eq.refl 82) (fun h79 => ?_) (fun h79 => ?_)
                  · exact absurd (rg_in (a := 10) (b := 69) (by decide) (by decide) h73 h79) hc2
                  · refine Tr.iconst (v := (-1)) dX9_told_82 (by decide +kernel) (Eq.refl 83) ?_
                    refine Tr.iret dX9_told_83 rfl (by first | rfl | exact bI_nar _) ?_ ?_
                    · rfl
                    · rfl
              · rw [if_pos h51]
                refine Tr.aload_n (i := 0) dX9_told_54 rfl rfl (Eq.refl 55) ?_
                refine Tr.getf dX9_told_55 fX9_28 rfl rfl (Eq.refl 58) ?_
                refine Tr.getf dX9_told_58 fX9_108 rfl rfl (Eq.refl 61) ?_
                refine Tr.if_eqB (tgt := 68) dX9_told_61 (by decide) (Eq.refl 64) (fun h61 => ?_) (fun h61 => ?_)
                · rw [h61]
                  refine Tr.iconst (v := nI 0) dX9_told_68 (icN 0) (Eq.refl 69) ?_
                  refine Tr.iret dX9_told_69 rfl (by first | rfl | exact bI_nar _) ?_ ?_
                  · rfl
                  · rfl
                · rw [h61]
                  refine Tr.iconst (v := nI 1) dX9_told_64 (icN 1) (Eq.refl 65) ?_
                  refine Tr.goto (pc' := 69) dX9_told_65 (by decide) ?_
                  refine Tr.iret dX9_told_69 rfl (by first | rfl | exact bI_nar _) ?_ ?_
                  · rfl
                  · rfl
            · exact absurd (rg_in (a := 2) (b := 7) (by decide) (by decide) h27 h33) hc1
        · rw [if_pos h14]
          refine Tr.aload_n (i := 0) dX9_told_17 rfl rfl (Eq.refl 18) ?_
          refine Tr.getf dX9_told_18 fX9_28 rfl rfl (Eq.refl 21) ?_
          refine Tr.getf dX9_told_21 fX9_102 rfl rfl (Eq.refl 24) ?_
          refine Tr.iret dX9_told_24 rfl (by first | rfl | exact bI_nar _) ?_ ?_
          · rfl
          · rfl
      · rw [if_pos (show x = nI 0 from h1)]
        refine Tr.aload_n (i := 0) dX9_told_4 rfl rfl (Eq.refl 5) ?_
        refine Tr.getf dX9_told_5 fX9_28 rfl rfl (Eq.refl 8) ?_
        refine Tr.getf dX9_told_8 fX9_99 rfl rfl (Eq.refl 11) ?_
        refine Tr.iret dX9_told_11 rfl (by first | rfl | exact bI_nar _) ?_ ?_
        · rfl
        · rfl
set_option maxHeartbeats 4000000 in
set_option maxRecDepth 100000 in
theorem x_tie (E : EnvT) (ad r : Nat → Nat) (hf : Int32) (V : Vil) (X : Vix) (x y : Int32) (hV : Vok V) : Md E mX9_tie ad [.ref (ad 0), .int x, .int y] (xvC E ad r hf V X) (some (.int (if (ixB x (npV V) && ixB y (npV V) && !decide (x = y)) then tiV V ((nN x) * 5 + (nN y)) else -1000))) (xvC E ad r hf V X) := by
  have v2 := hV.2.1
  by_cases hc : (ixB x (npV V) && ixB y (npV V) && !decide (x = y)) = true
  · rw [if_pos hc]
    have hc0 := Bool.and_eq_true_iff.mp hc
    have hc1 : ixB x (npV V) = true := (Bool.and_eq_true_iff.mp hc0.1).1
    have hc2 : ixB y (npV V) = true := (Bool.and_eq_true_iff.mp hc0.1).2
    obtain ⟨p, hp, rfl⟩ := ixB_n v2 hc1
    obtain ⟨q, hq, rfl⟩ := ixB_n v2 hc2
    rw [nN_n (show p < 2 ^ 31 by omega), nN_n (show q < 2 ^ 31 by omega)]
    refine Md.of 0 (by decide) rfl rfl ?_
    refine Tr.aload_n (i := 0) dX9_tie_0 rfl rfl (Eq.refl 1) ?_
    refine Tr.iload_n (i := 1) dX9_tie_1 rfl rfl (Eq.refl 2) ?_
    refine Tr.iload_n (i := 2) dX9_tie_2 rfl rfl (Eq.refl 3) ?_
    refine Tr.callVs (x_areTwo E ad r hf V X (nI p) (nI q)) dX9_tie_3 (kX9_143 (Nat.le_of_ble_eq_true rfl)) iX9_areTwo rfl rfl rfl rfl rfl (Nat.le_refl _) rfl rfl (Eq.refl 6) ?_
    refine Tr.if_eqB (tgt := 25) dX9_tie_6 (by decide) (Eq.refl 9) (fun h6 => ?_) (fun h6 => ?_)
    · exact absurd (hc.symm.trans h6) (by decide)
    · refine Tr.aload_n (i := 0) dX9_tie_9 rfl rfl (Eq.refl 10) ?_
      refine Tr.getf dX9_tie_10 fX9_28 rfl rfl (Eq.refl 13) ?_
      refine Tr.getf dX9_tie_13 fX9_147 rfl rfl (Eq.refl 16) ?_
      refine Tr.iload_n (i := 1) dX9_tie_16 rfl rfl (Eq.refl 17) ?_
      refine Tr.iconst (v := nI 5) dX9_tie_17 (icN 5) (Eq.refl 18) ?_
      refine Tr.imulN dX9_tie_18 (Eq.refl 19) ?_
      refine Tr.iload_n (i := 2) dX9_tie_19 rfl rfl (Eq.refl 20) ?_
      refine Tr.iaddN dX9_tie_20 (Eq.refl 21) ?_
      refine Tr.ialdN dX9_tie_21 rfl (by omega) (by decide) (Eq.refl 22) ?_
      refine Tr.goto (pc' := 28) dX9_tie_22 (by decide) ?_
      refine Tr.iret dX9_tie_28 rfl (by first | rfl | exact bI_nar _) ?_ ?_
      · rfl
      · rfl
  · rw [if_neg hc]
    refine Md.of 0 (by decide) rfl rfl ?_
    refine Tr.aload_n (i := 0) dX9_tie_0 rfl rfl (Eq.refl 1) ?_
    refine Tr.iload_n (i := 1) dX9_tie_1 rfl rfl (Eq.refl 2) ?_
    refine Tr.iload_n (i := 2) dX9_tie_2 rfl rfl (Eq.refl 3) ?_
    refine Tr.callVs (x_areTwo E ad r hf V X x y) dX9_tie_3 (kX9_143 (Nat.le_of_ble_eq_true rfl)) iX9_areTwo rfl rfl rfl rfl rfl (Nat.le_refl _) rfl rfl (Eq.refl 6) ?_
    refine Tr.if_eqB (tgt := 25) dX9_tie_6 (by decide) (Eq.refl 9) (fun h6 => ?_) (fun h6 => ?_)
    · refine Tr.sipush (v := (-1000)) dX9_tie_25 (by decide +kernel) (Eq.refl 28) ?_
      refine Tr.iret dX9_tie_28 rfl (by first | rfl | exact bI_nar _) ?_ ?_
      · rfl
      · rfl
    · exact absurd h6 hc
set_option maxHeartbeats 4000000 in
set_option maxRecDepth 100000 in
theorem x_who (E : EnvT) (ad r : Nat → Nat) (hf : Int32) (S : Scn) (P : Nat → Nat) (L : Nat → Int32) (a : Nat) (kp : Bool) (W : Nat → Nat) (V : Vil) (X : Vix) (x y : Int32) (hV : Vok V) (hS : Sle V S) (hP : Ple P) (ht : psS S < 2 ^ 30) : Md E mX9_who ad [.ref (ad 0), .int x, .int y] (xnC E ad r hf S P L a kp W V X) (some (.int (if ixB x (npV V) then (if y = nI 0 then cl (whS S (nN x)) else if y = nI 1 then sdS S (nN x) else if y = nI 2 then ltS S (nN x) else if y = nI 3 then alS S (nN x) else -1000000) else -1000000))) (xnC E ad r hf S P L a kp W V X) := by
  have v1 := hV.1
  have v2 := hV.2.1
  by_cases hc : ixB x (npV V) = true
  · rw [if_pos hc]
    obtain ⟨p, hp, rfl⟩ := ixB_n v2 hc
    rw [nN_n (show p < 2 ^ 31 by omega)]
    refine Md.of 0 (by decide) rfl rfl ?_
    refine Tr.aload_n (i := 0) dX9_who_0 rfl rfl (Eq.refl 1) ?_
    refine Tr.iload_n (i := 1) dX9_who_1 rfl rfl (Eq.refl 2) ?_
    refine Tr.callVr (L := [0, 13, 14, 15, 16, 17, 18, 19, 20, 21, 22, 23]) (x_isPerson E _ (rN ad r) hf V X (nI p)) dX9_who_2 (kX9_134 (Nat.le_of_ble_eq_true rfl)) iX9_isPerson rfl rfl rfl rfl rfl rfl rfl rfl rfl (Eq.refl 5) ?_
    refine Tr.if_neB (tgt := 11) dX9_who_5 (by decide) (Eq.refl 8) (fun h5 => ?_) (fun h5 => ?_)
    · refine Tr.iload_n (i := 2) dX9_who_11 rfl rfl (Eq.refl 12) ?_
      by_cases h12_0 : y = nI 0
      · refine Tr.tsIn (off := 32) (tgt := 44) dX9_who_12 (by rw [h12_0]; decide) (by rw [h12_0]; decide) (by rw [h12_0]; rfl) (by decide) ?_
        rw [if_pos h12_0]
        refine Tr.aload_n (i := 0) dX9_who_44 rfl rfl (Eq.refl 45) ?_
        refine Tr.getf dX9_who_45 fX9_35 rfl rfl (Eq.refl 48) ?_
        refine Tr.getf dX9_who_48 fX9_175 rfl rfl (Eq.refl 51) ?_
        refine Tr.getf dX9_who_51 fX9_185 rfl rfl (Eq.refl 54) ?_
        refine Tr.iload_n (i := 1) dX9_who_54 rfl rfl (Eq.refl 55) ?_
        refine Tr.ialdN dX9_who_55 rfl (by omega) (by decide) (Eq.refl 56) ?_
        refine Tr.iret dX9_who_56 rfl (by first | rfl | exact bI_nar _) ?_ ?_
        · rfl
        · rfl
      by_cases h12_1 : y = nI 1
      · refine Tr.tsIn (off := 45) (tgt := 57) dX9_who_12 (by rw [h12_1]; decide) (by rw [h12_1]; decide) (by rw [h12_1]; rfl) (by decide) ?_
        rw [if_neg h12_0, if_pos h12_1]
        refine Tr.aload_n (i := 0) dX9_who_57 rfl rfl (Eq.refl 58) ?_
        refine Tr.getf dX9_who_58 fX9_35 rfl rfl (Eq.refl 61) ?_
        refine Tr.getf dX9_who_61 fX9_175 rfl rfl (Eq.refl 64) ?_
        refine Tr.getf dX9_who_64 fX9_188 rfl rfl (Eq.refl 67) ?_
        refine Tr.iload_n (i := 1) dX9_who_67 rfl rfl (Eq.refl 68) ?_
        refine Tr.ialdN dX9_who_68 rfl (by omega) (by decide) (Eq.refl 69) ?_
        refine Tr.iret dX9_who_69 rfl (by first | rfl | exact bI_nar _) ?_ ?_
        · rfl
        · rfl
      by_cases h12_2 : y = nI 2
      · refine Tr.tsIn (off := 58) (tgt := 70) dX9_who_12 (by rw [h12_2]; decide) (by rw [h12_2]; decide) (by rw [h12_2]; rfl) (by decide) ?_
        rw [if_neg h12_0, if_neg h12_1, if_pos h12_2]
        refine Tr.aload_n (i := 0) dX9_who_70 rfl rfl (Eq.refl 71) ?_
        refine Tr.getf dX9_who_71 fX9_35 rfl rfl (Eq.refl 74) ?_
        refine Tr.getf dX9_who_74 fX9_175 rfl rfl (Eq.refl 77) ?_
        refine Tr.getf dX9_who_77 fX9_191 rfl rfl (Eq.refl 80) ?_
        refine Tr.iload_n (i := 1) dX9_who_80 rfl rfl (Eq.refl 81) ?_
        refine Tr.ialdN dX9_who_81 rfl (by omega) (by decide) (Eq.refl 82) ?_
        refine Tr.iret dX9_who_82 rfl (by first | rfl | exact bI_nar _) ?_ ?_
        · rfl
        · rfl
      by_cases h12_3 : y = nI 3
      · refine Tr.tsIn (off := 71) (tgt := 83) dX9_who_12 (by rw [h12_3]; decide) (by rw [h12_3]; decide) (by rw [h12_3]; rfl) (by decide) ?_
        rw [if_neg h12_0, if_neg h12_1, if_neg h12_2, if_pos h12_3]
        refine Tr.aload_n (i := 0) dX9_who_83 rfl rfl (Eq.refl 84) ?_
        refine Tr.getf dX9_who_84 fX9_35 rfl rfl (Eq.refl 87) ?_
        refine Tr.getf dX9_who_87 fX9_175 rfl rfl (Eq.refl 90) ?_
        refine Tr.getf dX9_who_90 fX9_194 rfl rfl (Eq.refl 93) ?_
        refine Tr.iload_n (i := 1) dX9_who_93 rfl rfl (Eq.refl 94) ?_
        refine Tr.ialdN dX9_who_94 rfl (by omega) (by decide) (Eq.refl 95) ?_
        refine Tr.iret dX9_who_95 rfl (by first | rfl | exact bI_nar _) ?_ ?_
        · rfl
        · rfl
      refine Tr.tsOut (tgt := 96) dX9_who_12 (by by_cases hA : (y).toInt < 0 ∨ 3 < (y).toInt; exact hA; exfalso; rcases (show (y).toInt = 0 ∨ (y).toInt = 1 ∨ (y).toInt = 2 ∨ (y).toInt = 3 by omega) with hB | hB | hB | hB; exact h12_0 (sw_e (k := 0) (by decide) hB); exact h12_1 (sw_e (k := 1) (by decide) hB); exact h12_2 (sw_e (k := 2) (by decide) hB); exact h12_3 (sw_e (k := 3) (by decide) hB)) (by decide) ?_
      rw [if_neg h12_0, if_neg h12_1, if_neg h12_2, if_neg h12_3]
      refine Tr.ldc dX9_who_96 qX9_184 (Eq.refl 98) ?_
      refine Tr.iret dX9_who_98 rfl (by first | rfl | exact bI_nar _) ?_ ?_
      · rfl
      · rfl
    · exact absurd (hc.symm.trans h5) (by decide)
  · rw [if_neg hc]
    refine Md.of 0 (by decide) rfl rfl ?_
    refine Tr.aload_n (i := 0) dX9_who_0 rfl rfl (Eq.refl 1) ?_
    refine Tr.iload_n (i := 1) dX9_who_1 rfl rfl (Eq.refl 2) ?_
    refine Tr.callVr (L := [0, 13, 14, 15, 16, 17, 18, 19, 20, 21, 22, 23]) (x_isPerson E _ (rN ad r) hf V X x) dX9_who_2 (kX9_134 (Nat.le_of_ble_eq_true rfl)) iX9_isPerson rfl rfl rfl rfl rfl rfl rfl rfl rfl (Eq.refl 5) ?_
    refine Tr.if_neB (tgt := 11) dX9_who_5 (by decide) (Eq.refl 8) (fun h5 => ?_) (fun h5 => ?_)
    · exact absurd h5 hc
    · refine Tr.ldc dX9_who_8 qX9_184 (Eq.refl 10) ?_
      refine Tr.iret dX9_who_10 rfl (by first | rfl | exact bI_nar _) ?_ ?_
      · rfl
      · rfl
set_option maxHeartbeats 4000000 in
set_option maxRecDepth 100000 in
theorem x_house (E : EnvT) (ad r : Nat → Nat) (hf : Int32) (S : Scn) (P : Nat → Nat) (L : Nat → Int32) (a : Nat) (kp : Bool) (W : Nat → Nat) (V : Vil) (X : Vix) (x y : Int32) (hV : Vok V) (hS : Sle V S) (hP : Ple P) (ht : psS S < 2 ^ 30) : Md E mX9_house ad [.ref (ad 0), .int x, .int y] (xnC E ad r hf S P L a kp W V X) (some (.int (if ixB x (nhV V) then (if y = nI 0 then cl (hav V S (nN x)) else if y = nI 1 then soS S (nN x) else if y = nI 2 then stS S (nN x) else if y = nI 3 then nI (gue V S (nN x)) else -2) else -2))) (xnC E ad r hf S P L a kp W V X) := by
  have v1 := hV.1
  have v2 := hV.2.1
  by_cases hc : ixB x (nhV V) = true
  · rw [if_pos hc]
    obtain ⟨h, hh, rfl⟩ := ixB_n v1 hc
    rw [nN_n (show h < 2 ^ 31 by omega)]
    refine Md.of 0 (by decide) rfl rfl ?_
    refine Tr.aload_n (i := 0) dX9_house_0 rfl rfl (Eq.refl 1) ?_
    refine Tr.iload_n (i := 1) dX9_house_1 rfl rfl (Eq.refl 2) ?_
    refine Tr.callVr (L := [0, 13, 14, 15, 16, 17, 18, 19, 20, 21, 22, 23]) (x_isHouse E _ (rN ad r) hf V X (nI h)) dX9_house_2 (kX9_118 (Nat.le_of_ble_eq_true rfl)) iX9_isHouse rfl rfl rfl rfl rfl rfl rfl rfl rfl (Eq.refl 5) ?_
    refine Tr.if_neB (tgt := 11) dX9_house_5 (by decide) (Eq.refl 8) (fun h5 => ?_) (fun h5 => ?_)
    · refine Tr.iload_n (i := 2) dX9_house_11 rfl rfl (Eq.refl 12) ?_
      by_cases h12_0 : y = nI 0
      · refine Tr.tsIn (off := 32) (tgt := 44) dX9_house_12 (by rw [h12_0]; decide) (by rw [h12_0]; decide) (by rw [h12_0]; rfl) (by decide) ?_
        rw [if_pos h12_0]
        refine Tr.aload_n (i := 0) dX9_house_44 rfl rfl (Eq.refl 45) ?_
        refine Tr.getf dX9_house_45 fX9_35 rfl rfl (Eq.refl 48) ?_
        refine Tr.getf dX9_house_48 fX9_175 rfl rfl (Eq.refl 51) ?_
        refine Tr.aload_n (i := 0) dX9_house_51 rfl rfl (Eq.refl 52) ?_
        refine Tr.getf dX9_house_52 fX9_28 rfl rfl (Eq.refl 55) ?_
        refine Tr.iload_n (i := 1) dX9_house_55 rfl rfl (Eq.refl 56) ?_
        refine Tr.callVr (L := [2, 3, 4, 5, 6, 7, 8, 13, 14, 15, 16, 17, 18, 19, 20, 21, 22, 23]) (c_haver E _ V X S h hV hh) dX9_house_56 (kX9_197 (Nat.le_of_ble_eq_true rfl)) iX3_haver rfl rfl rfl rfl rfl rfl rfl rfl rfl (Eq.refl 59) ?_
        refine Tr.iret dX9_house_59 rfl (by first | rfl | exact bI_nar _) ?_ ?_
        · rfl
        · rfl
      by_cases h12_1 : y = nI 1
      · refine Tr.tsIn (off := 48) (tgt := 60) dX9_house_12 (by rw [h12_1]; decide) (by rw [h12_1]; decide) (by rw [h12_1]; rfl) (by decide) ?_
        rw [if_neg h12_0, if_pos h12_1]
        refine Tr.aload_n (i := 0) dX9_house_60 rfl rfl (Eq.refl 61) ?_
        refine Tr.getf dX9_house_61 fX9_35 rfl rfl (Eq.refl 64) ?_
        refine Tr.getf dX9_house_64 fX9_175 rfl rfl (Eq.refl 67) ?_
        refine Tr.getf dX9_house_67 fX9_201 rfl rfl (Eq.refl 70) ?_
        refine Tr.iload_n (i := 1) dX9_house_70 rfl rfl (Eq.refl 71) ?_
        refine Tr.ialdN dX9_house_71 rfl (by omega) (by decide) (Eq.refl 72) ?_
        refine Tr.iret dX9_house_72 rfl (by first | rfl | exact bI_nar _) ?_ ?_
        · rfl
        · rfl
      by_cases h12_2 : y = nI 2
      · refine Tr.tsIn (off := 61) (tgt := 73) dX9_house_12 (by rw [h12_2]; decide) (by rw [h12_2]; decide) (by rw [h12_2]; rfl) (by decide) ?_
        rw [if_neg h12_0, if_neg h12_1, if_pos h12_2]
        refine Tr.aload_n (i := 0) dX9_house_73 rfl rfl (Eq.refl 74) ?_
        refine Tr.getf dX9_house_74 fX9_35 rfl rfl (Eq.refl 77) ?_
        refine Tr.getf dX9_house_77 fX9_175 rfl rfl (Eq.refl 80) ?_
        refine Tr.getf dX9_house_80 fX9_202 rfl rfl (Eq.refl 83) ?_
        refine Tr.iload_n (i := 1) dX9_house_83 rfl rfl (Eq.refl 84) ?_
        refine Tr.ialdN dX9_house_84 rfl (by omega) (by decide) (Eq.refl 85) ?_
        refine Tr.iret dX9_house_85 rfl (by first | rfl | exact bI_nar _) ?_ ?_
        · rfl
        · rfl
      by_cases h12_3 : y = nI 3
      · refine Tr.tsIn (off := 74) (tgt := 86) dX9_house_12 (by rw [h12_3]; decide) (by rw [h12_3]; decide) (by rw [h12_3]; rfl) (by decide) ?_
        rw [if_neg h12_0, if_neg h12_1, if_neg h12_2, if_pos h12_3]
        refine Tr.aload_n (i := 0) dX9_house_86 rfl rfl (Eq.refl 87) ?_
        refine Tr.getf dX9_house_87 fX9_35 rfl rfl (Eq.refl 90) ?_
        refine Tr.getf dX9_house_90 fX9_175 rfl rfl (Eq.refl 93) ?_
        refine Tr.aload_n (i := 0) dX9_house_93 rfl rfl (Eq.refl 94) ?_
        refine Tr.getf dX9_house_94 fX9_28 rfl rfl (Eq.refl 97) ?_
        refine Tr.iload_n (i := 1) dX9_house_97 rfl rfl (Eq.refl 98) ?_
        refine Tr.callVr (L := [2, 3, 4, 5, 6, 7, 8, 13, 14, 15, 16, 17, 18, 19, 20, 21, 22, 23]) (c_guestsIn E _ V X S h hV hh) dX9_house_98 (kX9_203 (Nat.le_of_ble_eq_true rfl)) iX3_guestsIn rfl rfl rfl rfl rfl rfl rfl rfl rfl (Eq.refl 101) ?_
        refine Tr.iret dX9_house_101 rfl (by first | rfl | exact bI_nar _) ?_ ?_
        · rfl
        · rfl
      refine Tr.tsOut (tgt := 102) dX9_house_12 (by by_cases hA : (y).toInt < 0 ∨ 3 < (y).toInt; exact hA; exfalso; rcases (show (y).toInt = 0 ∨ (y).toInt = 1 ∨ (y).toInt = 2 ∨ (y).toInt = 3 by omega) with hB | hB | hB | hB; exact h12_0 (sw_e (k := 0) (by decide) hB); exact h12_1 (sw_e (k := 1) (by decide) hB); exact h12_2 (sw_e (k := 2) (by decide) hB); exact h12_3 (sw_e (k := 3) (by decide) hB)) (by decide) ?_
      rw [if_neg h12_0, if_neg h12_1, if_neg h12_2, if_neg h12_3]
      refine Tr.bipush (v := (-2)) dX9_house_102 (by decide +kernel) (Eq.refl 104) ?_
      refine Tr.iret dX9_house_104 rfl (by first | rfl | exact bI_nar _) ?_ ?_
      · rfl
      · rfl
    · exact absurd (hc.symm.trans h5) (by decide)
  · rw [if_neg hc]
    refine Md.of 0 (by decide) rfl rfl ?_
    refine Tr.aload_n (i := 0) dX9_house_0 rfl rfl (Eq.refl 1) ?_
    refine Tr.iload_n (i := 1) dX9_house_1 rfl rfl (Eq.refl 2) ?_
    refine Tr.callVr (L := [0, 13, 14, 15, 16, 17, 18, 19, 20, 21, 22, 23]) (x_isHouse E _ (rN ad r) hf V X x) dX9_house_2 (kX9_118 (Nat.le_of_ble_eq_true rfl)) iX9_isHouse rfl rfl rfl rfl rfl rfl rfl rfl rfl (Eq.refl 5) ?_
    refine Tr.if_neB (tgt := 11) dX9_house_5 (by decide) (Eq.refl 8) (fun h5 => ?_) (fun h5 => ?_)
    · exact absurd h5 hc
    · refine Tr.bipush (v := (-2)) dX9_house_8 (by decide +kernel) (Eq.refl 10) ?_
      refine Tr.iret dX9_house_10 rfl (by first | rfl | exact bI_nar _) ?_ ?_
      · rfl
      · rfl
set_option maxHeartbeats 4000000 in
set_option maxRecDepth 100000 in
theorem x_word (E : EnvT) (ad r : Nat → Nat) (hf : Int32) (S : Scn) (P : Nat → Nat) (L : Nat → Int32) (a : Nat) (kp : Bool) (W : Nat → Nat) (V : Vil) (X : Vix) (x : Int32) (hV : Vok V) (hS : Sle V S) (hP : Ple P) (ht : psS S < 2 ^ 30) : Md E mX9_word ad [.ref (ad 0), .int x] (xnC E ad r hf S P L a kp W V X) (some (.int (if ixB x (nhV V) then nI (wrd V S (nN x)) else -2))) (xnC E ad r hf S P L a kp W V X) := by
  have v1 := hV.1
  have v2 := hV.2.1
  by_cases hc : ixB x (nhV V) = true
  · rw [if_pos hc]
    obtain ⟨h, hh, rfl⟩ := ixB_n v1 hc
    rw [nN_n (show h < 2 ^ 31 by omega)]
    refine Md.of 0 (by decide) rfl rfl ?_
    refine Tr.aload_n (i := 0) dX9_word_0 rfl rfl (Eq.refl 1) ?_
    refine Tr.iload_n (i := 1) dX9_word_1 rfl rfl (Eq.refl 2) ?_
    refine Tr.callVr (L := [0, 13, 14, 15, 16, 17, 18, 19, 20, 21, 22, 23]) (x_isHouse E _ (rN ad r) hf V X (nI h)) dX9_word_2 (kX9_118 (Nat.le_of_ble_eq_true rfl)) iX9_isHouse rfl rfl rfl rfl rfl rfl rfl rfl rfl (Eq.refl 5) ?_
    refine Tr.if_eqB (tgt := 26) dX9_word_5 (by decide) (Eq.refl 8) (fun h5 => ?_) (fun h5 => ?_)
    · exact absurd (hc.symm.trans h5) (by decide)
    · refine Tr.aload_n (i := 0) dX9_word_8 rfl rfl (Eq.refl 9) ?_
      refine Tr.getf dX9_word_9 fX9_35 rfl rfl (Eq.refl 12) ?_
      refine Tr.getf dX9_word_12 fX9_175 rfl rfl (Eq.refl 15) ?_
      refine Tr.aload_n (i := 0) dX9_word_15 rfl rfl (Eq.refl 16) ?_
      refine Tr.getf dX9_word_16 fX9_28 rfl rfl (Eq.refl 19) ?_
      refine Tr.iload_n (i := 1) dX9_word_19 rfl rfl (Eq.refl 20) ?_
      refine Tr.callVr (L := [2, 3, 4, 5, 6, 7, 8, 13, 14, 15, 16, 17, 18, 19, 20, 21, 22, 23]) (c_wordOf E _ V X S h hV hh) dX9_word_20 (kX9_206 (Nat.le_of_ble_eq_true rfl)) iX3_wordOf rfl rfl rfl rfl rfl rfl rfl rfl rfl (Eq.refl 23) ?_
      refine Tr.goto (pc' := 28) dX9_word_23 (by decide) ?_
      refine Tr.iret dX9_word_28 rfl (by first | rfl | exact bI_nar _) ?_ ?_
      · rfl
      · rfl
  · rw [if_neg hc]
    refine Md.of 0 (by decide) rfl rfl ?_
    refine Tr.aload_n (i := 0) dX9_word_0 rfl rfl (Eq.refl 1) ?_
    refine Tr.iload_n (i := 1) dX9_word_1 rfl rfl (Eq.refl 2) ?_
    refine Tr.callVr (L := [0, 13, 14, 15, 16, 17, 18, 19, 20, 21, 22, 23]) (x_isHouse E _ (rN ad r) hf V X x) dX9_word_2 (kX9_118 (Nat.le_of_ble_eq_true rfl)) iX9_isHouse rfl rfl rfl rfl rfl rfl rfl rfl rfl (Eq.refl 5) ?_
    refine Tr.if_eqB (tgt := 26) dX9_word_5 (by decide) (Eq.refl 8) (fun h5 => ?_) (fun h5 => ?_)
    · refine Tr.bipush (v := (-2)) dX9_word_26 (by decide +kernel) (Eq.refl 28) ?_
      refine Tr.iret dX9_word_28 rfl (by first | rfl | exact bI_nar _) ?_ ?_
      · rfl
      · rfl
    · exact absurd h5 hc
set_option maxHeartbeats 4000000 in
set_option maxRecDepth 100000 in
theorem x_planned (E : EnvT) (ad r : Nat → Nat) (hf : Int32) (S : Scn) (P : Nat → Nat) (L : Nat → Int32) (a : Nat) (kp : Bool) (W : Nat → Nat) (V : Vil) (X : Vix) (x y : Int32) (hV : Vok V) (hS : Sle V S) (hP : Ple P) (ht : psS S < 2 ^ 30) : Md E mX9_planned ad [.ref (ad 0), .int x, .int y] (xnC E ad r hf S P L a kp W V X) (some (.int (if (ixB x (npV V) && rgB y (nI 0) (nI 3)) then cl (P ((nN x) * 4 + (nN y))) else -2))) (xnC E ad r hf S P L a kp W V X) := by
  have v1 := hV.1
  have v2 := hV.2.1
  by_cases hc : (ixB x (npV V) && rgB y (nI 0) (nI 3)) = true
  · rw [if_pos hc]
    have hc1 : ixB x (npV V) = true := (Bool.and_eq_true_iff.mp hc).1
    have hc2 : rgB y (nI 0) (nI 3) = true := (Bool.and_eq_true_iff.mp hc).2
    obtain ⟨p, hp, rfl⟩ := ixB_n v2 hc1
    obtain ⟨k, -, hk, rfl⟩ := rgB_n (by decide) (by decide) hc2
    rw [nN_n (show p < 2 ^ 31 by omega)]
    rw [nN_n (show k < 2 ^ 31 by omega)]
    refine Md.of 0 (by decide) rfl rfl ?_
    refine Tr.aload_n (i := 0) dX9_planned_0 rfl rfl (Eq.refl 1) ?_
    refine Tr.iload_n (i := 1) dX9_planned_1 rfl rfl (Eq.refl 2) ?_
    refine Tr.callVr (L := [0, 13, 14, 15, 16, 17, 18, 19, 20, 21, 22, 23]) (x_isPerson E _ (rN ad r) hf V X (nI p)) dX9_planned_2 (kX9_134 (Nat.le_of_ble_eq_true rfl)) iX9_isPerson rfl rfl rfl rfl rfl rfl rfl rfl rfl (Eq.refl 5) ?_
    refine Tr.if_eqB (tgt := 17) dX9_planned_5 (by decide) (Eq.refl 8) (fun h5 => ?_) (fun h5 => ?_)
    · exact absurd (hc1.symm.trans h5) (by decide)
    · refine Tr.iload_n (i := 2) dX9_planned_8 rfl rfl (Eq.refl 9) ?_
      refine Tr.if_lt (tgt := 17) dX9_planned_9 (by decide) (Eq.refl 12) (fun h9 => ?_) (fun h9 => ?_)
      · exact absurd h9 (nI_nneg (by omega))
      · refine Tr.iload_n (i := 2) dX9_planned_12 rfl rfl (Eq.refl 13) ?_
        refine Tr.iconst (v := nI 4) dX9_planned_13 (icN 4) (Eq.refl 14) ?_
        refine Tr.icmp_ltN (tgt := 20) dX9_planned_14 (by decide) (Eq.refl 17) (by omega) (by omega) (fun h14 => ?_) (fun h14 => ?_)
        · refine Tr.aload_n (i := 0) dX9_planned_20 rfl rfl (Eq.refl 21) ?_
          refine Tr.getf dX9_planned_21 fX9_35 rfl rfl (Eq.refl 24) ?_
          refine Tr.getf dX9_planned_24 fX9_157 rfl rfl (Eq.refl 27) ?_
          refine Tr.getf dX9_planned_27 fX9_161 rfl rfl (Eq.refl 30) ?_
          refine Tr.iload_n (i := 1) dX9_planned_30 rfl rfl (Eq.refl 31) ?_
          refine Tr.iconst (v := nI 4) dX9_planned_31 (icN 4) (Eq.refl 32) ?_
          refine Tr.imulN dX9_planned_32 (Eq.refl 33) ?_
          refine Tr.iload_n (i := 2) dX9_planned_33 rfl rfl (Eq.refl 34) ?_
          refine Tr.iaddN dX9_planned_34 (Eq.refl 35) ?_
          refine Tr.ialdN dX9_planned_35 rfl (by omega) (by decide) (Eq.refl 36) ?_
          refine Tr.iret dX9_planned_36 rfl (by first | rfl | exact bI_nar _) ?_ ?_
          · rfl
          · rfl
        · exact absurd h14 (by omega)
  · rw [if_neg hc]
    refine Md.of 0 (by decide) rfl rfl ?_
    refine Tr.aload_n (i := 0) dX9_planned_0 rfl rfl (Eq.refl 1) ?_
    refine Tr.iload_n (i := 1) dX9_planned_1 rfl rfl (Eq.refl 2) ?_
    refine Tr.callVr (L := [0, 13, 14, 15, 16, 17, 18, 19, 20, 21, 22, 23]) (x_isPerson E _ (rN ad r) hf V X x) dX9_planned_2 (kX9_134 (Nat.le_of_ble_eq_true rfl)) iX9_isPerson rfl rfl rfl rfl rfl rfl rfl rfl rfl (Eq.refl 5) ?_
    refine Tr.if_eqB (tgt := 17) dX9_planned_5 (by decide) (Eq.refl 8) (fun h5 => ?_) (fun h5 => ?_)
    · refine Tr.bipush (v := (-2)) dX9_planned_17 (by decide +kernel) (Eq.refl 19) ?_
      refine Tr.iret dX9_planned_19 rfl (by first | rfl | exact bI_nar _) ?_ ?_
      · rfl
      · rfl
    · refine Tr.iload_n (i := 2) dX9_planned_8 rfl rfl (Eq.refl 9) ?_
      refine Tr.if_lt (tgt := 17) dX9_planned_9 (by decide) (Eq.refl 12) (fun h9 => ?_) (fun h9 => ?_)
      · refine Tr.bipush (v := (-2)) dX9_planned_17 (by decide +kernel) (Eq.refl 19) ?_
        refine Tr.iret dX9_planned_19 rfl (by first | rfl | exact bI_nar _) ?_ ?_
        · rfl
        · rfl
      · refine Tr.iload_n (i := 2) dX9_planned_12 rfl rfl (Eq.refl 13) ?_
        refine Tr.iconst (v := nI 4) dX9_planned_13 (icN 4) (Eq.refl 14) ?_
        refine Tr.icmp_lt (tgt := 20) dX9_planned_14 (by decide) (Eq.refl 17) (fun h14 => ?_) (fun h14 => ?_)
        · exact absurd (by rw [h5, rg_in (a := 0) (b := 3) (by decide) (by decide) h9 h14]; rfl) hc
        · refine Tr.bipush (v := (-2)) dX9_planned_17 (by decide +kernel) (Eq.refl 19) ?_
          refine Tr.iret dX9_planned_19 rfl (by first | rfl | exact bI_nar _) ?_ ?_
          · rfl
          · rfl
set_option maxHeartbeats 4000000 in
set_option maxRecDepth 100000 in
theorem x_lets (E : EnvT) (ad r : Nat → Nat) (hf : Int32) (S : Scn) (P : Nat → Nat) (L : Nat → Int32) (a : Nat) (kp : Bool) (W : Nat → Nat) (V : Vil) (X : Vix) (x y : Int32) (hV : Vok V) (hS : Sle V S) (hP : Ple P) (ht : psS S < 2 ^ 30) : Md E mX9_lets ad [.ref (ad 0), .int x, .int y] (xnC E ad r hf S P L a kp W V X) (some (.int (if (ixB x (npV V) && rgB y (nI 0) (nI 31)) then L (nN x) else -2))) (xnC E ad r hf S P (if (ixB x (npV V) && rgB y (nI 0) (nI 31)) then upd L (nN x) y else L) a kp W V X) := by
  have v1 := hV.1
  have v2 := hV.2.1
  by_cases hc : (ixB x (npV V) && rgB y (nI 0) (nI 31)) = true
  · rw [if_pos hc, if_pos hc]
    have hc1 : ixB x (npV V) = true := (Bool.and_eq_true_iff.mp hc).1
    have hc2 : rgB y (nI 0) (nI 31) = true := (Bool.and_eq_true_iff.mp hc).2
    obtain ⟨p, hp, rfl⟩ := ixB_n v2 hc1
    obtain ⟨k, -, hk, rfl⟩ := rgB_n (by decide) (by decide) hc2
    rw [nN_n (show p < 2 ^ 31 by omega)]
    refine Md.of 1 (by decide) rfl rfl ?_
    refine Tr.aload_n (i := 0) dX9_lets_0 rfl rfl (Eq.refl 1) ?_
    refine Tr.iload_n (i := 1) dX9_lets_1 rfl rfl (Eq.refl 2) ?_
    refine Tr.callVr (L := [0, 13, 14, 15, 16, 17, 18, 19, 20, 21, 22, 23]) (x_isPerson E _ (rN ad r) hf V X (nI p)) dX9_lets_2 (kX9_134 (Nat.le_of_ble_eq_true rfl)) iX9_isPerson rfl rfl rfl rfl rfl rfl rfl rfl rfl (Eq.refl 5) ?_
    refine Tr.if_eqB (tgt := 18) dX9_lets_5 (by decide) (Eq.refl 8) (fun h5 => ?_) (fun h5 => ?_)
    · exact absurd (hc1.symm.trans h5) (by decide)
    · refine Tr.iload_n (i := 2) dX9_lets_8 rfl rfl (Eq.refl 9) ?_
      refine Tr.if_lt (tgt := 18) dX9_lets_9 (by decide) (Eq.refl 12) (fun h9 => ?_) (fun h9 => ?_)
      · exact absurd h9 (nI_nneg (by omega))
      · refine Tr.iload_n (i := 2) dX9_lets_12 rfl rfl (Eq.refl 13) ?_
        refine Tr.bipush (v := nI 31) dX9_lets_13 (by decide +kernel) (Eq.refl 15) ?_
        refine Tr.icmp_leN (tgt := 21) dX9_lets_15 (by decide) (Eq.refl 18) (by omega) (by omega) (fun h15 => ?_) (fun h15 => ?_)
        · refine Tr.aload_n (i := 0) dX9_lets_21 rfl rfl (Eq.refl 22) ?_
          refine Tr.getf dX9_lets_22 fX9_35 rfl rfl (Eq.refl 25) ?_
          refine Tr.getf dX9_lets_25 fX9_157 rfl rfl (Eq.refl 28) ?_
          refine Tr.getf dX9_lets_28 fX9_166 rfl rfl (Eq.refl 31) ?_
          refine Tr.iload_n (i := 1) dX9_lets_31 rfl rfl (Eq.refl 32) ?_
          refine Tr.ialdN dX9_lets_32 rfl (by omega) (by decide) (Eq.refl 33) ?_
          refine Tr.istore_n (i := 3) dX9_lets_33 rfl rfl rfl (Eq.refl 34) ?_
          refine Tr.aload_n (i := 0) dX9_lets_34 rfl rfl (Eq.refl 35) ?_
          refine Tr.getf dX9_lets_35 fX9_35 rfl rfl (Eq.refl 38) ?_
          refine Tr.getf dX9_lets_38 fX9_157 rfl rfl (Eq.refl 41) ?_
          refine Tr.getf dX9_lets_41 fX9_166 rfl rfl (Eq.refl 44) ?_
          refine Tr.iload_n (i := 1) dX9_lets_44 rfl rfl (Eq.refl 45) ?_
          refine Tr.iload_n (i := 2) dX9_lets_45 rfl rfl (Eq.refl 46) ?_
          refine Tr.iastN dX9_lets_46 rfl (by omega) (by decide) (Eq.refl 47) ?_
          refine Tr.iload_n (i := 3) dX9_lets_47 rfl rfl (Eq.refl 48) ?_
          refine Tr.iret dX9_lets_48 rfl (by first | rfl | exact bI_nar _) ?_ ?_
          · rfl
          · rfl
        · exact absurd h15 (by omega)
  · rw [if_neg hc, if_neg hc]
    refine Md.of 1 (by decide) rfl rfl ?_
    refine Tr.aload_n (i := 0) dX9_lets_0 rfl rfl (Eq.refl 1) ?_
    refine Tr.iload_n (i := 1) dX9_lets_1 rfl rfl (Eq.refl 2) ?_
    refine Tr.callVr (L := [0, 13, 14, 15, 16, 17, 18, 19, 20, 21, 22, 23]) (x_isPerson E _ (rN ad r) hf V X x) dX9_lets_2 (kX9_134 (Nat.le_of_ble_eq_true rfl)) iX9_isPerson rfl rfl rfl rfl rfl rfl rfl rfl rfl (Eq.refl 5) ?_
    refine Tr.if_eqB (tgt := 18) dX9_lets_5 (by decide) (Eq.refl 8) (fun h5 => ?_) (fun h5 => ?_)
    · refine Tr.bipush (v := (-2)) dX9_lets_18 (by decide +kernel) (Eq.refl 20) ?_
      refine Tr.iret dX9_lets_20 rfl (by first | rfl | exact bI_nar _) ?_ ?_
      · rfl
      · rfl
    · refine Tr.iload_n (i := 2) dX9_lets_8 rfl rfl (Eq.refl 9) ?_
      refine Tr.if_lt (tgt := 18) dX9_lets_9 (by decide) (Eq.refl 12) (fun h9 => ?_) (fun h9 => ?_)
      · refine Tr.bipush (v := (-2)) dX9_lets_18 (by decide +kernel) (Eq.refl 20) ?_
        refine Tr.iret dX9_lets_20 rfl (by first | rfl | exact bI_nar _) ?_ ?_
        · rfl
        · rfl
      · refine Tr.iload_n (i := 2) dX9_lets_12 rfl rfl (Eq.refl 13) ?_
        refine Tr.bipush (v := nI 31) dX9_lets_13 (by decide +kernel) (Eq.refl 15) ?_
        refine Tr.icmp_leL (tgt := 21) dX9_lets_15 (by decide) (Eq.refl 18) (fun h15 => ?_) (fun h15 => ?_)
        · exact absurd (by rw [h5, rgB_t (a := nI 0) (b := nI 31) h9 h15]; rfl) hc
        · refine Tr.bipush (v := (-2)) dX9_lets_18 (by decide +kernel) (Eq.refl 20) ?_
          refine Tr.iret dX9_lets_20 rfl (by first | rfl | exact bI_nar _) ?_ ?_
          · rfl
          · rfl
theorem nN_e {x : Int32} (hc : ¬ x < 0) : x = nI (nN x) ∧ nN x < 2 ^ 31 := by
  have h9 := hc
  rw [Int32.lt_iff_toInt_lt] at h9
  have h8 : (0 : Int32).toInt = 0 := by decide
  have h7 := Int32.toInt_lt x
  have h6 : nN x < 2 ^ 31 := by unfold nN Int32.toNatClampNeg; omega
  exact ⟨Int32.toInt_inj.mp (by rw [nI_toInt h6]; unfold nN Int32.toNatClampNeg; omega), h6⟩
set_option maxHeartbeats 4000000 in
set_option maxRecDepth 100000 in
theorem x_chance (E : EnvT) (ad r : Nat → Nat) (hf : Int32) (S : Scn) (P : Nat → Nat) (L : Nat → Int32) (a : Nat) (kp : Bool) (W : Nat → Nat) (V : Vil) (X : Vix) (x : Int32) : Md E mX9_chance ad [.ref (ad 0), .int x] (xnC E ad r hf S P L a kp W V X) (some (.int (if x < 0 then -2 else 1))) (xnC E ad r hf S P L (if x < 0 then a else nN x) kp W V X) := by
  by_cases hc : x < 0
  · rw [if_pos hc, if_pos hc]
    refine Md.of 0 (by decide) rfl rfl ?_
    refine Tr.iload_n (i := 1) dX9_chance_0 rfl rfl (Eq.refl 1) ?_
    refine Tr.if_geL (tgt := 7) dX9_chance_1 (by decide) (Eq.refl 4) (fun h1 => ?_) (fun h1 => ?_)
    · exact absurd hc h1
    · refine Tr.bipush (v := (-2)) dX9_chance_4 (by decide +kernel) (Eq.refl 6) ?_
      refine Tr.iret dX9_chance_6 rfl (by first | rfl | exact bI_nar _) ?_ ?_
      · rfl
      · rfl
  · rw [if_neg hc, if_neg hc]
    have hx := (nN_e hc).1
    generalize nN x = n at *
    subst hx
    refine Md.of 0 (by decide) rfl rfl ?_
    refine Tr.iload_n (i := 1) dX9_chance_0 rfl rfl (Eq.refl 1) ?_
    refine Tr.if_geL (tgt := 7) dX9_chance_1 (by decide) (Eq.refl 4) (fun h1 => ?_) (fun h1 => ?_)
    · refine Tr.aload_n (i := 0) dX9_chance_7 rfl rfl (Eq.refl 8) ?_
      refine Tr.getf dX9_chance_8 fX9_35 rfl rfl (Eq.refl 11) ?_
      refine Tr.iload_n (i := 1) dX9_chance_11 rfl rfl (Eq.refl 12) ?_
      refine Tr.putf dX9_chance_12 pX9_169 rfl (rfl) (rfl) rfl (Eq.refl 15) ?_
      refine Tr.iconst (v := nI 1) dX9_chance_15 (icN 1) (Eq.refl 16) ?_
      refine Tr.iret dX9_chance_16 rfl (by first | rfl | exact bI_nar _) ?_ ?_
      · rfl
      · rfl
    · exact absurd h1 hc
/-- quarters that pass, as the class passes them -/
def pcF (V : Vil) (P : Nat → Nat) (L : Nat → Int32) (q : Scn × Nat × (Nat → Nat)) : Nat → Scn × Nat × (Nat → Nat)
  | 0 => q
  | n + 1 => (gon V L (pqF V P (psS (pcF V P L q n).1) (pcF V P L q n).2.1 (pcF V P L q n).2.2).2 (pcF V P L q n).1, (pqF V P (psS (pcF V P L q n).1) (pcF V P L q n).2.1 (pcF V P L q n).2.2).1, (pqF V P (psS (pcF V P L q n).1) (pcF V P L q n).2.1 (pcF V P L q n).2.2).2)
theorem pcF_ok {V : Vil} {P : Nat → Nat} {L : Nat → Int32} {q : Scn × Nat × (Nat → Nat)} (hV : Vok V) (hP : Ple P) (h : Sle V q.1) (ha : q.2.1 < 2 ^ 31) : ∀ n, Sle V (pcF V P L q n).1 ∧ (pcF V P L q n).2.1 < 2 ^ 31 ∧ psS (pcF V P L q n).1 = psS q.1 + n := by
  intro n
  induction n with
  | zero => exact ⟨h, ha, rfl⟩
  | succ n ih =>
    obtain ⟨i1, i2, i3⟩ := ih
    refine ⟨gon_le i1 (pqF_le hV hP), pqF_lt i2, ?_⟩
    show psS (gon _ _ _ _) = _
    rw [gon_ps, i3]
    omega
set_option maxHeartbeats 4000000 in
set_option maxRecDepth 100000 in
theorem x_pass (E : EnvT) (ad r : Nat → Nat) (hf : Int32) (S : Scn) (P : Nat → Nat) (L : Nat → Int32) (a : Nat) (kp : Bool) (W : Nat → Nat) (V : Vil) (X : Vix) (x : Int32) (hV : Vok V) (hS : Sle V S) (hP : Ple P) (ht : psS S < 2 ^ 30) (ha : a < 2 ^ 31) : Md E mX9_pass ad [.ref (ad 0), .int x] (xnC E ad r hf S P L a kp W V X) (some (.int (if rgB x (nI 0) (nI 400) then nI (psS (pcF V P L (S, a, W) (nN x)).1) else -2))) (if rgB x (nI 0) (nI 400) then (xnC E ad r hf (pcF V P L (S, a, W) (nN x)).1 P L (pcF V P L (S, a, W) (nN x)).2.1 kp (pcF V P L (S, a, W) (nN x)).2.2 V X) else (xnC E ad r hf S P L a kp W V X)) := by
  by_cases hc : rgB x (nI 0) (nI 400) = true
  · rw [if_pos hc, if_pos hc]
    obtain ⟨n, -, hn, rfl⟩ := rgB_n (by decide) (by decide) hc
    rw [nN_n (show n < 2 ^ 31 by omega)]
    refine Md.of 1 (by decide) rfl rfl ?_
    refine Tr.iload_n (i := 1) dX9_pass_0 rfl rfl (Eq.refl 1) ?_
    refine Tr.if_lt (tgt := 11) dX9_pass_1 (by decide) (Eq.refl 4) (fun h1 => ?_) (fun h1 => ?_)
    · exact absurd h1 (nI_nneg (by omega))
    · refine Tr.iload_n (i := 1) dX9_pass_4 rfl rfl (Eq.refl 5) ?_
      refine Tr.sipush (v := nI 400) dX9_pass_5 (by decide +kernel) (Eq.refl 8) ?_
      refine Tr.icmp_leN (tgt := 14) dX9_pass_8 (by decide) (Eq.refl 11) (by omega) (by omega) (fun h8 => ?_) (fun h8 => ?_)
      · refine Tr.iconst (v := nI 0) dX9_pass_14 (icN 0) (Eq.refl 15) ?_
        refine Tr.istore_n (i := 2) dX9_pass_15 rfl rfl rfl (Eq.refl 16) ?_
        skip
        refine Tr.mask [true, true, true] (lv' := [some (.ref (ad 0)), some (.int (nI n)), some (.int (nI 0))]) rfl ?_
        refine Tr.pic (w' := (xnC E ad r hf (pcF V P L (S, a, W) 0).1 P L (pcF V P L (S, a, W) 0).2.1 kp (pcF V P L (S, a, W) 0).2.2 V X)) rfl ?_
        refine loopD (P := fun j => Tr _ 0 0 16 [some (.ref (ad 0)), some (.int (nI n)), some (.int (nI j))] [] (xnC E ad r hf (pcF V P L (S, a, W) j).1 P L (pcF V P L (S, a, W) j).2.1 kp (pcF V P L (S, a, W) j).2.2 V X)) n ?_ (fun j hj ih => ?_)
        · refine Tr.iload_n (i := 2) dX9_pass_16 rfl rfl (Eq.refl 17) ?_
          refine Tr.iload_n (i := 1) dX9_pass_17 rfl rfl (Eq.refl 18) ?_
          refine Tr.icmp_geN (tgt := 38) dX9_pass_18 (by decide) (Eq.refl 21) (by omega) (by omega) (fun h18 => ?_) (fun h18 => ?_)
          · refine Tr.aload_n (i := 0) dX9_pass_38 rfl rfl (Eq.refl 39) ?_
            refine Tr.getf dX9_pass_39 fX9_35 rfl rfl (Eq.refl 42) ?_
            refine Tr.getf dX9_pass_42 fX9_175 rfl rfl (Eq.refl 45) ?_
            refine Tr.getf dX9_pass_45 fX9_179 rfl rfl (Eq.refl 48) ?_
            refine Tr.iret dX9_pass_48 rfl (by first | rfl | exact bI_nar _) ?_ ?_
            · rfl
            · rfl
          · exact absurd h18 (by omega)
        · obtain ⟨k1, k2, k3⟩ := pcF_ok (L := L) (q := (S, a, W)) hV hP hS ha j
          have hu : (pcF V P L (S, a, W) (j + 1)) = (gon V L (pqF V P (psS (pcF V P L (S, a, W) j).1) (pcF V P L (S, a, W) j).2.1 (pcF V P L (S, a, W) j).2.2).2 (pcF V P L (S, a, W) j).1, (pqF V P (psS (pcF V P L (S, a, W) j).1) (pcF V P L (S, a, W) j).2.1 (pcF V P L (S, a, W) j).2.2).1, (pqF V P (psS (pcF V P L (S, a, W) j).1) (pcF V P L (S, a, W) j).2.1 (pcF V P L (S, a, W) j).2.2).2) := rfl
          rw [hu] at ih
          clear hu
          generalize (pcF V P L (S, a, W) j) = q at *
          obtain ⟨S1, a1, W1⟩ := q
          have k1 : Sle V S1 := k1
          have k2 : a1 < 2 ^ 31 := k2
          have k3 : psS S1 = psS S + j := k3
          show Tr _ 0 0 16 _ _ (xnC E ad r hf S1 P L a1 kp W1 V X)
          refine Tr.iload_n (i := 2) dX9_pass_16 rfl rfl (Eq.refl 17) ?_
          refine Tr.iload_n (i := 1) dX9_pass_17 rfl rfl (Eq.refl 18) ?_
          refine Tr.icmp_geN (tgt := 38) dX9_pass_18 (by decide) (Eq.refl 21) (by omega) (by omega) (fun h18 => ?_) (fun h18 => ?_)
          · exact absurd h18 (by omega)
          · refine Tr.aload_n (i := 0) dX9_pass_21 rfl rfl (Eq.refl 22) ?_
            refine Tr.getf dX9_pass_22 fX9_35 rfl rfl (Eq.refl 25) ?_
            refine Tr.aload_n (i := 0) dX9_pass_25 rfl rfl (Eq.refl 26) ?_
            refine Tr.getf dX9_pass_26 fX9_28 rfl rfl (Eq.refl 29) ?_
            refine Tr.callV (L := [1, 2, 3, 4, 5, 6, 7, 8, 9, 10, 11, 12, 13, 14, 15, 16, 17, 18, 19, 20, 21, 22, 23]) (c_passQuarter E _ S1 P L a1 kp W1 V X hV k1 hP k2 (by omega)) dX9_pass_29 (kX9_172 (Nat.le_of_ble_eq_true rfl)) iX1_passQuarter rfl rfl rfl rfl rfl rfl rfl rfl rfl rfl (Eq.refl 32) ?_
            refine Tr.pic (w' := xnC E ad r hf (gon V L (pqF V P (psS S1) a1 W1).2 S1) P L (pqF V P (psS S1) a1 W1).1 kp (pqF V P (psS S1) a1 W1).2 V X) (putB_eq (Lc := [0]) 24 rfl rfl rfl rfl ⟨⟨_, rfl, rfl⟩, trivial⟩ (by decide) rfl) ?_
            refine Tr.iincN dX9_pass_32 rfl rfl rfl (Eq.refl 35) ?_
            refine Tr.goto (pc' := 16) dX9_pass_35 (by decide) ?_
            exact Tr.eqs rfl rfl rfl ih
      · exact absurd h8 (by omega)
  · rw [if_neg hc, if_neg hc]
    refine Md.of 1 (by decide) rfl rfl ?_
    refine Tr.iload_n (i := 1) dX9_pass_0 rfl rfl (Eq.refl 1) ?_
    refine Tr.if_lt (tgt := 11) dX9_pass_1 (by decide) (Eq.refl 4) (fun h1 => ?_) (fun h1 => ?_)
    · refine Tr.bipush (v := (-2)) dX9_pass_11 (by decide +kernel) (Eq.refl 13) ?_
      refine Tr.iret dX9_pass_13 rfl (by first | rfl | exact bI_nar _) ?_ ?_
      · rfl
      · rfl
    · refine Tr.iload_n (i := 1) dX9_pass_4 rfl rfl (Eq.refl 5) ?_
      refine Tr.sipush (v := nI 400) dX9_pass_5 (by decide +kernel) (Eq.refl 8) ?_
      refine Tr.icmp_leL (tgt := 14) dX9_pass_8 (by decide) (Eq.refl 11) (fun h8 => ?_) (fun h8 => ?_)
      · exact absurd (rgB_t (a := nI 0) (b := nI 400) h1 h8) hc
      · refine Tr.bipush (v := (-2)) dX9_pass_11 (by decide +kernel) (Eq.refl 13) ?_
        refine Tr.iret dX9_pass_13 rfl (by first | rfl | exact bI_nar _) ?_ ?_
        · rfl
        · rfl
