/-! THE REFERENCE: a book is held against the village -/
theorem nI_s1 (j : Nat) : nI (j + 1) - nI 1 = nI j := by rw [← nI_add]; exact Int32.add_sub_cancel _ _
theorem nI_d1 (j : Nat) : nI j + (-1) = nI j - nI 1 := by rw [Int32.sub_eq_add_neg]; rfl
def ibF (b : Bki) (i : Nat) : Nat → Bool
  | 0 => true
  | j + 1 => if b.2.1 j = b.2.1 i then (if b.2.2.1 j = b.2.2.1 i then false else ibF b i j) else true
def ioB (V : Vil) (b : Bki) (i : Nat) : Bool := decide (b.2.2.1 i < npV V) && ((decide (b.2.2.2 i = 5) || decide (b.2.2.2 i < nhV V)) && ((decide (i = 0) || !decide (b.2.1 i < b.2.1 (i - 1))) && ibF b i i))
def goF (V : Vil) (b : Bki) : Nat → Nat → Nat
  | 0, i => i
  | n + 1, i => if ioB V b i then goF V b n (i + 1) else i
theorem mA_le {E : EnvT} {ad : Nat → Nat} {V : Vil} {D : Dvi} {tp : Nat} {T : Nat → Nat} {k : Tki} {f : Nat} {fa : Int32} {VR : Vil} {XR : Vix} {N : Nwi} {J : Jk} {K : Nat → Int32} {kb : Nat → Bool} {fn : Nat} {hb : Bool} {F : Nat → Nat} {b : Bki} : (mA E ad V D tp T k f fa VR XR N J K kb fn hb F b).length ≤ (mA E ad V D tp T k f fa VR XR N J K kb fn hb F b).length := Nat.le_refl _
set_option maxHeartbeats 4000000 in
set_option maxRecDepth 100000 in
theorem m_ioL (E : EnvT) (ad : Nat → Nat) (V : Vil) (D : Dvi) (tp : Nat) (T : Nat → Nat) (k : Tki) (f : Nat) (fa : Int32) (VR : Vil) (XR : Vix) (N : Nwi) (J : Jk) (K : Nat → Int32) (kb : Nat → Bool) (fn : Nat) (hb : Bool) (F : Nat → Nat) (b : Bki) (i : Nat) (hbr : ∀ j, j < b.1 → b.2.1 j ≤ 99 ∧ b.2.2.1 j < 5 ∧ b.2.2.2 j ≤ 5) (hs : b.1 ≤ 150) (hV : Vok V) (hi : i < b.1) : ∀ c, c ≤ i → Tr (E, mX10_isInOrder, ad, some (.int (bI (ibF b i c))), (mA E ad V D tp T k f fa VR XR N J K kb fn hb F b)) 0 0 65 [some (.ref (ad 0)), some (.int (nI i)), some (.int (nI c - nI 1))] [] (mA E ad V D tp T k f fa VR XR N J K kb fn hb F b) := by
  intro c
  induction c with
  | zero =>
    intro _
    refine Tr.iload_n (i := 2) dX10_isInOrder_65 rfl rfl (Eq.refl 66) ?_
    refine Tr.if_lt (tgt := 107) dX10_isInOrder_66 (by decide) (Eq.refl 69) (fun h66 => ?_) (fun h66 => ?_)
    · refine Tr.iconst (v := nI 1) dX10_isInOrder_107 (icN 1) (Eq.refl 108) ?_
      refine Tr.iret dX10_isInOrder_108 rfl (by first | rfl | exact bI_nar _) ?_ ?_
      · rfl
      · rfl
    · exact absurd h66 (by decide)
  | succ c ih =>
    intro hc
    rw [nI_s1]
    have b1 := hbr i hi
    have b2 := hbr c (by omega)
    have hu : ibF b i (c + 1) = if b.2.1 c = b.2.1 i then (if b.2.2.1 c = b.2.2.1 i then false else ibF b i c) else true := rfl
    rw [hu]
    clear hu
    have hn : ¬ nI c < 0 := fun z9 => by have := (nI_lt_iff (b := 0) (by omega) (by decide)).mp z9; omega
    refine Tr.iload_n (i := 2) dX10_isInOrder_65 rfl rfl (Eq.refl 66) ?_
    refine Tr.if_lt (tgt := 107) dX10_isInOrder_66 (by decide) (Eq.refl 69) (fun h66 => ?_) (fun h66 => ?_)
    · exact absurd h66 hn
    · refine Tr.aload_n (i := 0) dX10_isInOrder_69 rfl rfl (Eq.refl 70) ?_
      refine Tr.getf dX10_isInOrder_70 fX10_259 rfl rfl (Eq.refl 73) ?_
      refine Tr.iload_n (i := 2) dX10_isInOrder_73 rfl rfl (Eq.refl 74) ?_
      refine Tr.ialdN dX10_isInOrder_74 rfl (by omega) (by decide) (Eq.refl 75) ?_
      refine Tr.aload_n (i := 0) dX10_isInOrder_75 rfl rfl (Eq.refl 76) ?_
      refine Tr.getf dX10_isInOrder_76 fX10_259 rfl rfl (Eq.refl 79) ?_
      refine Tr.iload_n (i := 1) dX10_isInOrder_79 rfl rfl (Eq.refl 80) ?_
      refine Tr.ialdN dX10_isInOrder_80 rfl (by omega) (by decide) (Eq.refl 81) ?_
      refine Tr.icmp_neN (tgt := 107) dX10_isInOrder_81 (by decide) (Eq.refl 84) (by omega) (by omega) (fun h81 => ?_) (fun h81 => ?_)
      · rw [if_neg h81]
        refine Tr.iconst (v := nI 1) dX10_isInOrder_107 (icN 1) (Eq.refl 108) ?_
        refine Tr.iret dX10_isInOrder_108 rfl (by first | rfl | exact bI_nar _) ?_ ?_
        · rfl
        · rfl
      · rw [if_pos (by omega)]
        refine Tr.aload_n (i := 0) dX10_isInOrder_84 rfl rfl (Eq.refl 85) ?_
        refine Tr.getf dX10_isInOrder_85 fX10_262 rfl rfl (Eq.refl 88) ?_
        refine Tr.iload_n (i := 2) dX10_isInOrder_88 rfl rfl (Eq.refl 89) ?_
        refine Tr.ialdN dX10_isInOrder_89 rfl (by omega) (by decide) (Eq.refl 90) ?_
        refine Tr.aload_n (i := 0) dX10_isInOrder_90 rfl rfl (Eq.refl 91) ?_
        refine Tr.getf dX10_isInOrder_91 fX10_262 rfl rfl (Eq.refl 94) ?_
        refine Tr.iload_n (i := 1) dX10_isInOrder_94 rfl rfl (Eq.refl 95) ?_
        refine Tr.ialdN dX10_isInOrder_95 rfl (by omega) (by decide) (Eq.refl 96) ?_
        refine Tr.icmp_neN (tgt := 101) dX10_isInOrder_96 (by decide) (Eq.refl 99) (by omega) (by omega) (fun h96 => ?_) (fun h96 => ?_)
        · rw [if_neg h96]
          refine Tr.iinc dX10_isInOrder_101 rfl rfl rfl rfl (Eq.refl 104) ?_
          refine Tr.goto (pc' := 65) dX10_isInOrder_104 (by decide) ?_
          rw [show nI c + Int32.ofInt (-1) = nI c - nI 1 from nI_d1 c]
          exact Tr.eqs rfl rfl rfl (ih (by omega))
        · rw [if_pos (by omega)]
          refine Tr.iconst (v := nI 0) dX10_isInOrder_99 (icN 0) (Eq.refl 100) ?_
          refine Tr.iret dX10_isInOrder_100 rfl (by first | rfl | exact bI_nar _) ?_ ?_
          · rfl
          · rfl
set_option maxHeartbeats 4000000 in
set_option maxRecDepth 100000 in
theorem m_isInOrder (E : EnvT) (ad : Nat → Nat) (V : Vil) (D : Dvi) (tp : Nat) (T : Nat → Nat) (k : Tki) (f : Nat) (fa : Int32) (VR : Vil) (XR : Vix) (N : Nwi) (J : Jk) (K : Nat → Int32) (kb : Nat → Bool) (fn : Nat) (hb : Bool) (F : Nat → Nat) (b : Bki) (i : Nat) (hbr : ∀ j, j < b.1 → b.2.1 j ≤ 99 ∧ b.2.2.1 j < 5 ∧ b.2.2.2 j ≤ 5) (hs : b.1 ≤ 150) (hV : Vok V) (hi : i < b.1) : Md E mX10_isInOrder ad [.ref (ad 0), .int (nI i)] (mA E ad V D tp T k f fa VR XR N J K kb fn hb F b) (some (.int (bI (ioB V b i)))) (mA E ad V D tp T k f fa VR XR N J K kb fn hb F b) := by
  have hh5 := hV.1
  have hp5 := hV.2.1
  have b1 := hbr i hi
  have hL := m_ioL E ad V D tp T k f fa VR XR N J K kb fn hb F b i hbr hs hV hi i (Nat.le_refl _)
  unfold ioB
  refine Md.of 1 (by decide) rfl rfl ?_
  by_cases hi0 : i = 0
  · subst hi0
    rw [decide_eq_true (show 0 = 0 from rfl), Bool.true_or, Bool.true_and]
    refine Tr.aload_n (i := 0) dX10_isInOrder_0 rfl rfl (Eq.refl 1) ?_
    refine Tr.aload_n (i := 0) dX10_isInOrder_1 rfl rfl (Eq.refl 2) ?_
    refine Tr.getf dX10_isInOrder_2 fX10_262 rfl rfl (Eq.refl 5) ?_
    refine Tr.iload_n (i := 1) dX10_isInOrder_5 rfl rfl (Eq.refl 6) ?_
    refine Tr.ialdN dX10_isInOrder_6 rfl (by omega) (by decide) (Eq.refl 7) ?_
    refine Tr.callVr (L := [0]) (m_isPerson E _ (rA ad) (iA V D tp k f fa VR XR J fn hb b) (nhV V) (npV V) (nI (b.2.2.1 0)) hp5) dX10_isInOrder_7 (kX10_309 (Nat.le_of_ble_eq_true rfl)) iX10_isPerson rfl rfl rfl rfl rfl rfl rfl rfl rfl (Eq.refl 10) ?_
    rw [ixB_i (by omega) (by omega)]
    refine Tr.if_eqB (tgt := 36) dX10_isInOrder_10 (by decide) (Eq.refl 13) (fun h10 => ?_) (fun h10 => ?_)
    · rw [h10, Bool.false_and]
      refine Tr.iconst (v := nI 0) dX10_isInOrder_36 (icN 0) (Eq.refl 37) ?_
      refine Tr.iret dX10_isInOrder_37 rfl (by first | rfl | exact bI_nar _) ?_ ?_
      · rfl
      · rfl
    · rw [h10, Bool.true_and]
      refine Tr.aload_n (i := 0) dX10_isInOrder_13 rfl rfl (Eq.refl 14) ?_
      refine Tr.getf dX10_isInOrder_14 fX10_265 rfl rfl (Eq.refl 17) ?_
      refine Tr.iload_n (i := 1) dX10_isInOrder_17 rfl rfl (Eq.refl 18) ?_
      refine Tr.ialdN dX10_isInOrder_18 rfl (by omega) (by decide) (Eq.refl 19) ?_
      refine Tr.iconst (v := nI 5) dX10_isInOrder_19 (icN 5) (Eq.refl 20) ?_
      refine Tr.icmp_eqN (tgt := 38) dX10_isInOrder_20 (by decide) (Eq.refl 23) (by omega) (by omega) (fun h20 => ?_) (fun h20 => ?_)
      · rw [decide_eq_true (show b.2.2.2 0 = 5 by omega), Bool.true_or, Bool.true_and]
        refine Tr.iload_n (i := 1) dX10_isInOrder_38 rfl rfl (Eq.refl 39) ?_
        refine Tr.if_leL (tgt := 61) dX10_isInOrder_39 (by decide) (Eq.refl 42) (fun _ => ?_) (fun h => absurd h (by decide))
        refine Tr.iload_n (i := 1) dX10_isInOrder_61 rfl rfl (Eq.refl 62) ?_
        refine Tr.iconst (v := nI 1) dX10_isInOrder_62 (icN 1) (Eq.refl 63) ?_
        refine Tr.isub dX10_isInOrder_63 (Eq.refl 64) ?_
        refine Tr.istore_n (i := 2) dX10_isInOrder_64 rfl rfl rfl (Eq.refl 65) ?_
        exact Tr.eqs rfl rfl rfl hL
      · rw [decide_eq_false (show ¬ b.2.2.2 0 = 5 by omega), Bool.false_or]
        refine Tr.aload_n (i := 0) dX10_isInOrder_23 rfl rfl (Eq.refl 24) ?_
        refine Tr.aload_n (i := 0) dX10_isInOrder_24 rfl rfl (Eq.refl 25) ?_
        refine Tr.getf dX10_isInOrder_25 fX10_265 rfl rfl (Eq.refl 28) ?_
        refine Tr.iload_n (i := 1) dX10_isInOrder_28 rfl rfl (Eq.refl 29) ?_
        refine Tr.ialdN dX10_isInOrder_29 rfl (by omega) (by decide) (Eq.refl 30) ?_
        refine Tr.callVr (L := [0]) (m_isHouse E _ (rA ad) (iA V D tp k f fa VR XR J fn hb b) (nhV V) (npV V) (nI (b.2.2.2 0)) hh5) dX10_isInOrder_30 (kX10_371 (Nat.le_of_ble_eq_true rfl)) iX10_isHouse rfl rfl rfl rfl rfl rfl rfl rfl rfl (Eq.refl 33) ?_
        rw [ixB_i (by omega) (by omega)]
        refine Tr.if_neB (tgt := 38) dX10_isInOrder_33 (by decide) (Eq.refl 36) (fun h33 => ?_) (fun h33 => ?_)
        · rw [h33, Bool.true_and]
          refine Tr.iload_n (i := 1) dX10_isInOrder_38 rfl rfl (Eq.refl 39) ?_
          refine Tr.if_leL (tgt := 61) dX10_isInOrder_39 (by decide) (Eq.refl 42) (fun _ => ?_) (fun h => absurd h (by decide))
          refine Tr.iload_n (i := 1) dX10_isInOrder_61 rfl rfl (Eq.refl 62) ?_
          refine Tr.iconst (v := nI 1) dX10_isInOrder_62 (icN 1) (Eq.refl 63) ?_
          refine Tr.isub dX10_isInOrder_63 (Eq.refl 64) ?_
          refine Tr.istore_n (i := 2) dX10_isInOrder_64 rfl rfl rfl (Eq.refl 65) ?_
          exact Tr.eqs rfl rfl rfl hL
        · rw [h33, Bool.false_and]
          refine Tr.iconst (v := nI 0) dX10_isInOrder_36 (icN 0) (Eq.refl 37) ?_
          refine Tr.iret dX10_isInOrder_37 rfl (by first | rfl | exact bI_nar _) ?_ ?_
          · rfl
          · rfl
  · obtain ⟨j, rfl⟩ : ∃ j, i = j + 1 := ⟨i - 1, by omega⟩
    have b2 := hbr j (by omega)
    have hpo : 0 < nI (j + 1) := (nI_lt_iff (a := 0) (by decide) (by omega)).mpr (by omega)
    have e1 : j + 1 - 1 = j := rfl
    rw [decide_eq_false hi0, Bool.false_or, e1]
    rw [nI_s1] at hL
    refine Tr.aload_n (i := 0) dX10_isInOrder_0 rfl rfl (Eq.refl 1) ?_
    refine Tr.aload_n (i := 0) dX10_isInOrder_1 rfl rfl (Eq.refl 2) ?_
    refine Tr.getf dX10_isInOrder_2 fX10_262 rfl rfl (Eq.refl 5) ?_
    refine Tr.iload_n (i := 1) dX10_isInOrder_5 rfl rfl (Eq.refl 6) ?_
    refine Tr.ialdN dX10_isInOrder_6 rfl (by omega) (by decide) (Eq.refl 7) ?_
    refine Tr.callVr (L := [0]) (m_isPerson E _ (rA ad) (iA V D tp k f fa VR XR J fn hb b) (nhV V) (npV V) (nI (b.2.2.1 (j + 1))) hp5) dX10_isInOrder_7 (kX10_309 (Nat.le_of_ble_eq_true rfl)) iX10_isPerson rfl rfl rfl rfl rfl rfl rfl rfl rfl (Eq.refl 10) ?_
    rw [ixB_i (by omega) (by omega)]
    refine Tr.if_eqB (tgt := 36) dX10_isInOrder_10 (by decide) (Eq.refl 13) (fun h10 => ?_) (fun h10 => ?_)
    · rw [h10, Bool.false_and]
      refine Tr.iconst (v := nI 0) dX10_isInOrder_36 (icN 0) (Eq.refl 37) ?_
      refine Tr.iret dX10_isInOrder_37 rfl (by first | rfl | exact bI_nar _) ?_ ?_
      · rfl
      · rfl
    · rw [h10, Bool.true_and]
      refine Tr.aload_n (i := 0) dX10_isInOrder_13 rfl rfl (Eq.refl 14) ?_
      refine Tr.getf dX10_isInOrder_14 fX10_265 rfl rfl (Eq.refl 17) ?_
      refine Tr.iload_n (i := 1) dX10_isInOrder_17 rfl rfl (Eq.refl 18) ?_
      refine Tr.ialdN dX10_isInOrder_18 rfl (by omega) (by decide) (Eq.refl 19) ?_
      refine Tr.iconst (v := nI 5) dX10_isInOrder_19 (icN 5) (Eq.refl 20) ?_
      refine Tr.icmp_eqN (tgt := 38) dX10_isInOrder_20 (by decide) (Eq.refl 23) (by omega) (by omega) (fun h20 => ?_) (fun h20 => ?_)
      · rw [decide_eq_true (show b.2.2.2 (j + 1) = 5 by omega), Bool.true_or, Bool.true_and]
        refine Tr.iload_n (i := 1) dX10_isInOrder_38 rfl rfl (Eq.refl 39) ?_
        refine Tr.if_leL (tgt := 61) dX10_isInOrder_39 (by decide) (Eq.refl 42) (fun h39 => ?_) (fun h39 => ?_)
        · exact absurd hpo h39
        · refine Tr.aload_n (i := 0) dX10_isInOrder_42 rfl rfl (Eq.refl 43) ?_
          refine Tr.getf dX10_isInOrder_43 fX10_259 rfl rfl (Eq.refl 46) ?_
          refine Tr.iload_n (i := 1) dX10_isInOrder_46 rfl rfl (Eq.refl 47) ?_
          refine Tr.ialdN dX10_isInOrder_47 rfl (by omega) (by decide) (Eq.refl 48) ?_
          refine Tr.aload_n (i := 0) dX10_isInOrder_48 rfl rfl (Eq.refl 49) ?_
          refine Tr.getf dX10_isInOrder_49 fX10_259 rfl rfl (Eq.refl 52) ?_
          refine Tr.iload_n (i := 1) dX10_isInOrder_52 rfl rfl (Eq.refl 53) ?_
          refine Tr.iconst (v := nI 1) dX10_isInOrder_53 (icN 1) (Eq.refl 54) ?_
          refine Tr.isub dX10_isInOrder_54 (Eq.refl 55) ?_
          rw [nI_s1]
          refine Tr.ialdN dX10_isInOrder_55 rfl (by omega) (by decide) (Eq.refl 56) ?_
          refine Tr.icmp_geN (tgt := 61) dX10_isInOrder_56 (by decide) (Eq.refl 59) (by omega) (by omega) (fun h56 => ?_) (fun h56 => ?_)
          · rw [decide_eq_false (show ¬ b.2.1 (j + 1) < b.2.1 j by omega), Bool.not_false, Bool.true_and]
            refine Tr.iload_n (i := 1) dX10_isInOrder_61 rfl rfl (Eq.refl 62) ?_
            refine Tr.iconst (v := nI 1) dX10_isInOrder_62 (icN 1) (Eq.refl 63) ?_
            refine Tr.isub dX10_isInOrder_63 (Eq.refl 64) ?_
            rw [nI_s1]
            refine Tr.istore_n (i := 2) dX10_isInOrder_64 rfl rfl rfl (Eq.refl 65) ?_
            exact Tr.eqs rfl rfl rfl hL
          · rw [decide_eq_true (show b.2.1 (j + 1) < b.2.1 j by omega), Bool.not_true, Bool.false_and]
            refine Tr.iconst (v := nI 0) dX10_isInOrder_59 (icN 0) (Eq.refl 60) ?_
            refine Tr.iret dX10_isInOrder_60 rfl (by first | rfl | exact bI_nar _) ?_ ?_
            · rfl
            · rfl
      · rw [decide_eq_false (show ¬ b.2.2.2 (j + 1) = 5 by omega), Bool.false_or]
        refine Tr.aload_n (i := 0) dX10_isInOrder_23 rfl rfl (Eq.refl 24) ?_
        refine Tr.aload_n (i := 0) dX10_isInOrder_24 rfl rfl (Eq.refl 25) ?_
        refine Tr.getf dX10_isInOrder_25 fX10_265 rfl rfl (Eq.refl 28) ?_
        refine Tr.iload_n (i := 1) dX10_isInOrder_28 rfl rfl (Eq.refl 29) ?_
        refine Tr.ialdN dX10_isInOrder_29 rfl (by omega) (by decide) (Eq.refl 30) ?_
        refine Tr.callVr (L := [0]) (m_isHouse E _ (rA ad) (iA V D tp k f fa VR XR J fn hb b) (nhV V) (npV V) (nI (b.2.2.2 (j + 1))) hh5) dX10_isInOrder_30 (kX10_371 (Nat.le_of_ble_eq_true rfl)) iX10_isHouse rfl rfl rfl rfl rfl rfl rfl rfl rfl (Eq.refl 33) ?_
        rw [ixB_i (by omega) (by omega)]
        refine Tr.if_neB (tgt := 38) dX10_isInOrder_33 (by decide) (Eq.refl 36) (fun h33 => ?_) (fun h33 => ?_)
        · rw [h33, Bool.true_and]
          refine Tr.iload_n (i := 1) dX10_isInOrder_38 rfl rfl (Eq.refl 39) ?_
          refine Tr.if_leL (tgt := 61) dX10_isInOrder_39 (by decide) (Eq.refl 42) (fun h39 => ?_) (fun h39 => ?_)
          · exact absurd hpo h39
          · refine Tr.aload_n (i := 0) dX10_isInOrder_42 rfl rfl (Eq.refl 43) ?_
            refine Tr.getf dX10_isInOrder_43 fX10_259 rfl rfl (Eq.refl 46) ?_
            refine Tr.iload_n (i := 1) dX10_isInOrder_46 rfl rfl (Eq.refl 47) ?_
            refine Tr.ialdN dX10_isInOrder_47 rfl (by omega) (by decide) (Eq.refl 48) ?_
            refine Tr.aload_n (i := 0) dX10_isInOrder_48 rfl rfl (Eq.refl 49) ?_
            refine Tr.getf dX10_isInOrder_49 fX10_259 rfl rfl (Eq.refl 52) ?_
            refine Tr.iload_n (i := 1) dX10_isInOrder_52 rfl rfl (Eq.refl 53) ?_
            refine Tr.iconst (v := nI 1) dX10_isInOrder_53 (icN 1) (Eq.refl 54) ?_
            refine Tr.isub dX10_isInOrder_54 (Eq.refl 55) ?_
            rw [nI_s1]
            refine Tr.ialdN dX10_isInOrder_55 rfl (by omega) (by decide) (Eq.refl 56) ?_
            refine Tr.icmp_geN (tgt := 61) dX10_isInOrder_56 (by decide) (Eq.refl 59) (by omega) (by omega) (fun h56 => ?_) (fun h56 => ?_)
            · rw [decide_eq_false (show ¬ b.2.1 (j + 1) < b.2.1 j by omega), Bool.not_false, Bool.true_and]
              refine Tr.iload_n (i := 1) dX10_isInOrder_61 rfl rfl (Eq.refl 62) ?_
              refine Tr.iconst (v := nI 1) dX10_isInOrder_62 (icN 1) (Eq.refl 63) ?_
              refine Tr.isub dX10_isInOrder_63 (Eq.refl 64) ?_
              rw [nI_s1]
              refine Tr.istore_n (i := 2) dX10_isInOrder_64 rfl rfl rfl (Eq.refl 65) ?_
              exact Tr.eqs rfl rfl rfl hL
            · rw [decide_eq_true (show b.2.1 (j + 1) < b.2.1 j by omega), Bool.not_true, Bool.false_and]
              refine Tr.iconst (v := nI 0) dX10_isInOrder_59 (icN 0) (Eq.refl 60) ?_
              refine Tr.iret dX10_isInOrder_60 rfl (by first | rfl | exact bI_nar _) ?_ ?_
              · rfl
              · rfl
        · rw [h33, Bool.false_and]
          refine Tr.iconst (v := nI 0) dX10_isInOrder_36 (icN 0) (Eq.refl 37) ?_
          refine Tr.iret dX10_isInOrder_37 rfl (by first | rfl | exact bI_nar _) ?_ ?_
          · rfl
          · rfl
theorem cmF_ok {V : Vil} {L : Nat → Int32} {W : Nat → Nat} {S : Scn} (hS : Sok V S) (hW : Wok V W) : ∀ n, Sok V (cmF V L W S n) := by
  intro n
  induction n with
  | zero =>
    intro p hp
    show whS (lvF W S (npV V)) p < _ ∨ whS (lvF W S (npV V)) p = 5
    rw [lvF_wh]
    have := hS p hp
    rw [if_pos hp]
    by_cases e : whS S p = W p
    · rw [if_pos e]; exact this
    · rw [if_neg e]; exact Or.inr rfl
  | succ n ih =>
    intro p hp
    show whS (cmStep V L W S (cmF V L W S n) n) p < _ ∨ whS (cmStep V L W S (cmF V L W S n) n) p = 5
    unfold cmStep
    split
    · show upN _ _ _ _ < _ ∨ upN _ _ _ _ = 5
      by_cases h : p = n
      · subst h; rw [upN_self]; exact hW p hp
      · rw [upN_ne _ _ h]; exact ih p hp
    · exact ih p hp
theorem gon_ok {V : Vil} {L : Nat → Int32} {W : Nat → Nat} {S : Scn} (hS : Sok V S) (hW : Wok V W) : Sok V (gon V L W S) := by
  intro p hp
  rw [gon_wh]
  exact cmF_ok hS hW _ p hp
theorem Sok.le {V : Vil} {S : Scn} (hV : Vok V) (h : Sok V S) : Sle V S := fun p hp => by have := h p hp; have := hV.1; omega
def fcG (V V2 : Vil) (L : Nat → Int32) (b : Bki) (g : Nat) : Nat → Nat → Scn → (Nat → Nat) → (Nat → Int32) → Nat × Scn × (Nat → Nat) × (Nat → Int32)
  | 0, _, S, W, B => (1000, S, W, B)
  | n + 1, d, S, W, B => if d < g then (if ckF (gon V2 L (pqR V b S W d g).2 S) b ((pqR V b S W d g).1 - d) d < (pqR V b S W d g).1 then (ckF (gon V2 L (pqR V b S W d g).2 S) b ((pqR V b S W d g).1 - d) d, gon V2 L (pqR V b S W d g).2 S, (pqR V b S W d g).2, lbF (pqR V b S W d g).2 S B (npV V)) else fcG V V2 L b g n (pqR V b S W d g).1 (gon V2 L (pqR V b S W d g).2 S) (pqR V b S W d g).2 (lbF (pqR V b S W d g).2 S B (npV V))) else (1000, S, W, B)
def fcH (b : Bki) (g c : Nat) : Int32 := if c < 1000 then -1 - nI c else if g < b.1 then -1 - nI g else nI b.1
theorem ioB_all {V : Vil} {b : Bki} {i : Nat} (h : ioB V b i = true) : b.2.2.1 i < npV V ∧ (b.2.2.2 i = 5 ∨ b.2.2.2 i < nhV V) ∧ (i = 0 ∨ ¬ b.2.1 i < b.2.1 (i - 1)) ∧ ibF b i i = true := by
  unfold ioB at h
  have h := Bool.and_eq_true_iff.mp h
  have h2 := Bool.and_eq_true_iff.mp h.2
  have h3 := Bool.and_eq_true_iff.mp h2.2
  refine ⟨of_decide_eq_true h.1, ?_, ?_, h3.2⟩
  · rcases Bool.or_eq_true_iff.mp h2.1 with z | z
    · exact Or.inl (of_decide_eq_true z)
    · exact Or.inr (of_decide_eq_true z)
  · rcases Bool.or_eq_true_iff.mp h3.1 with z | z
    · exact Or.inl (of_decide_eq_true z)
    · exact Or.inr (of_decide_eq_false (by rw [Bool.not_eq_true'] at z; exact z))
theorem goF_le (V : Vil) (b : Bki) : ∀ n i, i ≤ goF V b n i ∧ goF V b n i ≤ i + n := by
  intro n
  induction n with
  | zero => intro k; exact ⟨Nat.le_refl _, Nat.le_refl _⟩
  | succ n ih =>
    intro k
    unfold goF
    split
    · have := ih (k + 1); exact ⟨by omega, by omega⟩
    · exact ⟨Nat.le_refl _, by omega⟩
theorem goF_in (V : Vil) (b : Bki) : ∀ n i k, i ≤ k → k < goF V b n i → ioB V b k = true := by
  intro n
  induction n with
  | zero => intro i k h1 h2; exact absurd (show k < i from h2) (by omega)
  | succ n ih =>
    intro i k h1 h2
    unfold goF at h2
    split at h2
    · rename_i c
      by_cases e : i = k
      · rw [← e]; exact c
      · exact ih (i + 1) k (by omega) h2
    · omega
theorem io_mono {V : Vil} {b : Bki} {g : Nat} (h : ∀ k, k < g → ioB V b k = true) : ∀ n k, k + n < g → b.2.1 k ≤ b.2.1 (k + n) := by
  intro n
  induction n with
  | zero => intro k _; exact Nat.le_refl _
  | succ n ih =>
    intro k hk
    have h1 := ih k (by omega)
    have h2 := (ioB_all (h (k + n + 1) (by omega))).2.2.1
    have e : k + n + 1 - 1 = k + n := rfl
    rw [e] at h2
    have e2 : k + (n + 1) = k + n + 1 := rfl
    rw [e2]
    omega
theorem prF_ok {V : Vil} {t : Nat} {b : Bki} {g : Nat} (hb : ∀ k, k < g → b.2.2.2 k = 5 ∨ b.2.2.2 k < nhV V) : ∀ n d W, d + n = g → Wok V W → Wok V (prF t b n d W).2 := by
  intro n
  induction n with
  | zero => intro d W _ h; exact h
  | succ n ih =>
    intro d W hd h
    unfold prF
    split
    · refine ih (d + 1) _ (by omega) ?_
      intro p hp
      unfold upN
      split
      · exact (hb d (by omega)).symm
      · exact h p hp
    · exact h
theorem prF_stop {t : Nat} {b : Bki} : ∀ n d W, (prF t b n d W).1 < d + n → ¬ b.2.1 (prF t b n d W).1 = t := by
  intro n
  induction n with
  | zero => intro d W h; exact absurd (show d < d + 0 from h) (by omega)
  | succ n ih =>
    intro d W h
    unfold prF at h ⊢
    split
    · rename_i c; rw [if_pos c] at h; exact ih (d + 1) _ (by omega)
    · rename_i c; exact c
theorem wkF_ok {V : Vil} {t : Nat} {W : Nat → Nat} (h : Wok V W) : ∀ n, Wok V (wkF V t W n) := by
  intro n
  induction n with
  | zero => exact h
  | succ n ih =>
    intro p hp
    unfold wkF
    split
    · unfold upN; split
      · exact Or.inr rfl
      · exact ih p hp
    · exact ih p hp
theorem prF_rg {t : Nat} {b : Bki} : ∀ n d W, d ≤ (prF t b n d W).1 ∧ (prF t b n d W).1 ≤ d + n := by
  intro n
  induction n with
  | zero => intro d W; exact ⟨Nat.le_refl _, Nat.le_refl _⟩
  | succ n ih =>
    intro d W
    unfold prF
    split
    · have := ih (d + 1) (upN W (b.2.2.1 d) (b.2.2.2 d)); exact ⟨by omega, by omega⟩
    · exact ⟨Nat.le_refl _, by omega⟩
theorem pre_ok {V : Vil} {S : Scn} {W : Nat → Nat} (h : Sok V S) : Wok V (pre (whS S) W (npV V)) := by
  intro p hp
  rw [pre_n hp]
  exact h p hp
theorem nI_pre (g f : Nat → Nat) (j : Nat) : upd (fun k => nI (pre g f j k)) j (nI (g j)) = (fun k => nI (pre g f (j + 1) k)) := by
  rw [pre_sN, nI_upN]
set_option maxHeartbeats 4000000 in
set_option maxRecDepth 100000 in
theorem m_bkP (E : EnvT) (ad : Nat → Nat) (V : Vil) (D : Dvi) (tp : Nat) (T : Nat → Nat) (k : Tki) (f : Nat) (fa : Int32) (VR : Vil) (XR : Vix) (N : Nwi) (J : Jk) (K : Nat → Int32) (kb : Nat → Bool) (fn : Nat) (hb : Bool) (F : Nat → Nat) (b : Bki) (P : Nat → Nat) (L : Nat → Int32) (ja : Nat) (g t0 d0 : Nat) (B : Nat → Int32) (S : Scn) (r0 : Option Value) (w0 : List va_E) (hbr : ∀ j, j < b.1 → b.2.1 j ≤ 99 ∧ b.2.2.1 j < 5 ∧ b.2.2.2 j ≤ 5) (hs : b.1 ≤ 150) (hV : Vok V) (hg : g ≤ b.1) (ht : t0 < 2 ^ 30) : ∀ (n d : Nat) (W : Nat → Nat), d + n = g → (∀ q, q = prF t0 b n d W → Tr (E, mX10_book, ad, r0, w0) 0 0 167 [some (.ref (ad 0)), some (.int (nI g)), some (.int (nI q.1)), some (.int (nI t0)), some (.int (nI d0)), none] [] (mA E ad V D tp T k f fa VR XR N (J.1, J.2.1, J.2.2.1, J.2.2.2.1, q.2, B, rwF S P L ja, J.2.2.2.2.2.2.2) K kb fn hb F b)) → Tr (E, mX10_book, ad, r0, w0) 0 0 129 [some (.ref (ad 0)), some (.int (nI g)), some (.int (nI d)), some (.int (nI t0)), some (.int (nI d0)), none] [] (mA E ad V D tp T k f fa VR XR N (J.1, J.2.1, J.2.2.1, J.2.2.2.1, W, B, rwF S P L ja, J.2.2.2.2.2.2.2) K kb fn hb F b) := by
  intro n
  induction n with
  | zero =>
    intro d W h hx
    have hx := hx _ rfl
    refine Tr.iload_n (i := 2) dX10_book_129 rfl rfl (Eq.refl 130) ?_
    refine Tr.iload_n (i := 1) dX10_book_130 rfl rfl (Eq.refl 131) ?_
    refine Tr.icmp_geN (tgt := 167) dX10_book_131 (by decide) (Eq.refl 134) (by omega) (by omega) (fun h131 => ?_) (fun h131 => ?_)
    · exact Tr.eqs rfl rfl rfl hx
    · exact absurd h131 (by omega)
  | succ n ih =>
    intro d W h hx
    have b1 := hbr d (by omega)
    have hu : prF t0 b (n + 1) d W = if b.2.1 d = t0 then prF t0 b n (d + 1) (upN W (b.2.2.1 d) (b.2.2.2 d)) else (d, W) := rfl
    rw [hu] at hx
    clear hu
    refine Tr.iload_n (i := 2) dX10_book_129 rfl rfl (Eq.refl 130) ?_
    refine Tr.iload_n (i := 1) dX10_book_130 rfl rfl (Eq.refl 131) ?_
    refine Tr.icmp_geN (tgt := 167) dX10_book_131 (by decide) (Eq.refl 134) (by omega) (by omega) (fun h131 => ?_) (fun h131 => ?_)
    · exact absurd h131 (by omega)
    · refine Tr.aload_n (i := 0) dX10_book_134 rfl rfl (Eq.refl 135) ?_
      refine Tr.getf dX10_book_135 fX10_259 rfl rfl (Eq.refl 138) ?_
      refine Tr.iload_n (i := 2) dX10_book_138 rfl rfl (Eq.refl 139) ?_
      refine Tr.ialdN dX10_book_139 rfl (by omega) (by decide) (Eq.refl 140) ?_
      refine Tr.iload_n (i := 3) dX10_book_140 rfl rfl (Eq.refl 141) ?_
      refine Tr.icmp_neN (tgt := 167) dX10_book_141 (by decide) (Eq.refl 144) (by omega) (by omega) (fun h141 => ?_) (fun h141 => ?_)
      · rw [if_neg (by omega)] at hx
        exact Tr.eqs rfl rfl rfl (hx _ rfl)
      · rw [if_pos (by omega)] at hx
        refine Tr.aload_n (i := 0) dX10_book_144 rfl rfl (Eq.refl 145) ?_
        refine Tr.getf dX10_book_145 fX10_236 rfl rfl (Eq.refl 148) ?_
        refine Tr.aload_n (i := 0) dX10_book_148 rfl rfl (Eq.refl 149) ?_
        refine Tr.getf dX10_book_149 fX10_262 rfl rfl (Eq.refl 152) ?_
        refine Tr.iload_n (i := 2) dX10_book_152 rfl rfl (Eq.refl 153) ?_
        refine Tr.ialdN dX10_book_153 rfl (by omega) (by decide) (Eq.refl 154) ?_
        refine Tr.aload_n (i := 0) dX10_book_154 rfl rfl (Eq.refl 155) ?_
        refine Tr.getf dX10_book_155 fX10_265 rfl rfl (Eq.refl 158) ?_
        refine Tr.iload_n (i := 2) dX10_book_158 rfl rfl (Eq.refl 159) ?_
        refine Tr.ialdN dX10_book_159 rfl (by omega) (by decide) (Eq.refl 160) ?_
        refine Tr.iastN dX10_book_160 rfl (by omega) (by decide) (Eq.refl 161) ?_
        refine Tr.pic (w' := (mA E ad V D tp T k f fa VR XR N (J.1, J.2.1, J.2.2.1, J.2.2.2.1, (upN W (b.2.2.1 d) (b.2.2.2 d)), B, rwF S P L ja, J.2.2.2.2.2.2.2) K kb fn hb F b)) (by unfold mA; rw [show (fun k => nI (((J.1, J.2.1, J.2.2.1, J.2.2.2.1, (upN W (b.2.2.1 d) (b.2.2.2 d)), B, rwF S P L ja, J.2.2.2.2.2.2.2) : Jk).2.2.2.2.1 k)) = upd (fun k => nI (W k)) (b.2.2.1 d) (nI (b.2.2.2 d)) from nI_upN _ _ _]; rfl) ?_
        refine Tr.iincN dX10_book_161 rfl rfl rfl (Eq.refl 164) ?_
        refine Tr.goto (pc' := 129) dX10_book_164 (by decide) ?_
        exact Tr.eqs rfl rfl rfl (ih (d + 1) _ (by omega) hx)
set_option maxHeartbeats 4000000 in
set_option maxRecDepth 100000 in
theorem m_bkC (E : EnvT) (ad : Nat → Nat) (V : Vil) (D : Dvi) (tp : Nat) (T : Nat → Nat) (k : Tki) (f : Nat) (fa : Int32) (VR : Vil) (XR : Vix) (N : Nwi) (J : Jk) (K : Nat → Int32) (kb : Nat → Bool) (fn : Nat) (hb : Bool) (F : Nat → Nat) (b : Bki) (P : Nat → Nat) (L : Nat → Int32) (ja : Nat) (g d2 : Nat) (W : Nat → Nat) (B : Nat → Int32) (S : Scn) (r0 : Option Value) (w0 : List va_E) (hbr : ∀ j, j < b.1 → b.2.1 j ≤ 99 ∧ b.2.2.1 j < 5 ∧ b.2.2.2 j ≤ 5) (hs : b.1 ≤ 150) (hV : Vok V) (hg : d2 ≤ b.1) (hS : Sle V S) (hn : ∀ k, k < d2 → b.2.2.1 k < npV V) : ∀ (n k' : Nat), k' + n = d2 → (ckF S b n k' = d2 → Tr (E, mX10_book, ad, r0, w0) 0 0 79 [some (.ref (ad 0)), some (.int (nI g)), some (.int (nI d2)), none, none, none] [] (mA E ad V D tp T k f fa VR XR N (J.1, J.2.1, J.2.2.1, J.2.2.2.1, W, B, rwF S P L ja, J.2.2.2.2.2.2.2) K kb fn hb F b)) → (ckF S b n k' < d2 → some (.int (-1 - nI (ckF S b n k'))) = r0 ∧ (mA E ad V D tp T k f fa VR XR N (J.1, J.2.1, J.2.2.1, J.2.2.2.1, W, B, rwF S P L ja, J.2.2.2.2.2.2.2) K kb fn hb F b) = w0) → Tr (E, mX10_book, ad, r0, w0) 0 0 218 [some (.ref (ad 0)), some (.int (nI g)), some (.int (nI d2)), none, none, some (.int (nI k'))] [] (mA E ad V D tp T k f fa VR XR N (J.1, J.2.1, J.2.2.1, J.2.2.2.1, W, B, rwF S P L ja, J.2.2.2.2.2.2.2) K kb fn hb F b) := by
  have hp5 := hV.2.1
  intro n
  induction n with
  | zero =>
    intro k' h hx hy
    have hk : k' = d2 := by omega
    have hx := hx hk
    refine Tr.iload dX10_book_218 rfl (Eq.refl 220) ?_
    refine Tr.iload_n (i := 2) dX10_book_220 rfl rfl (Eq.refl 221) ?_
    refine Tr.icmp_geN (tgt := 259) dX10_book_221 (by decide) (Eq.refl 224) (by omega) (by omega) (fun h221 => ?_) (fun h221 => ?_)
    · refine Tr.goto (pc' := 79) dX10_book_259 (by decide) ?_
      refine Tr.mask [true, true, true, false, false, false] (lv' := [some (.ref (ad 0)), some (.int (nI g)), some (.int (nI d2)), none, none, none]) rfl ?_
      exact Tr.eqs rfl rfl rfl hx
    · exact absurd h221 (by omega)
  | succ n ih =>
    intro k' h hx hy
    have b1 := hbr k' (by omega)
    have b2 := hn k' (by omega)
    have b3 := hS _ b2
    have hu : ckF S b (n + 1) k' = if whS S (b.2.2.1 k') = b.2.2.2 k' then ckF S b n (k' + 1) else k' := rfl
    rw [hu] at hx hy
    clear hu
    refine Tr.iload dX10_book_218 rfl (Eq.refl 220) ?_
    refine Tr.iload_n (i := 2) dX10_book_220 rfl rfl (Eq.refl 221) ?_
    refine Tr.icmp_geN (tgt := 259) dX10_book_221 (by decide) (Eq.refl 224) (by omega) (by omega) (fun h221 => ?_) (fun h221 => ?_)
    · exact absurd h221 (by omega)
    · refine Tr.aload_n (i := 0) dX10_book_224 rfl rfl (Eq.refl 225) ?_
      refine Tr.getf dX10_book_225 fX10_222 rfl rfl (Eq.refl 228) ?_
      refine Tr.iconst (v := nI 0) dX10_book_228 (icN 0) (Eq.refl 229) ?_
      refine Tr.aload_n (i := 0) dX10_book_229 rfl rfl (Eq.refl 230) ?_
      refine Tr.getf dX10_book_230 fX10_262 rfl rfl (Eq.refl 233) ?_
      refine Tr.iload dX10_book_233 rfl (Eq.refl 235) ?_
      refine Tr.ialdN dX10_book_235 rfl (by omega) (by decide) (Eq.refl 236) ?_
      refine Tr.iaddN dX10_book_236 (Eq.refl 237) ?_
      refine Tr.ialdN dX10_book_237 rfl (by omega) (by decide) (Eq.refl 238) ?_
      refine Tr.top (y := nI (whS S (b.2.2.1 k'))) (rd_wh (S := S) (P := P) (L := L) (a := ja) (by omega)) ?_
      refine Tr.aload_n (i := 0) dX10_book_238 rfl rfl (Eq.refl 239) ?_
      refine Tr.getf dX10_book_239 fX10_265 rfl rfl (Eq.refl 242) ?_
      refine Tr.iload dX10_book_242 rfl (Eq.refl 244) ?_
      refine Tr.ialdN dX10_book_244 rfl (by omega) (by decide) (Eq.refl 245) ?_
      refine Tr.icmp_eqN (tgt := 253) dX10_book_245 (by decide) (Eq.refl 248) (by omega) (by omega) (fun h245 => ?_) (fun h245 => ?_)
      · rw [if_pos (by omega)] at hx hy
        refine Tr.iincN dX10_book_253 rfl rfl rfl (Eq.refl 256) ?_
        refine Tr.goto (pc' := 218) dX10_book_256 (by decide) ?_
        exact Tr.eqs rfl rfl rfl (ih (k' + 1) (by omega) hx hy)
      · rw [if_neg h245] at hx hy
        have hy := hy (by omega)
        refine Tr.iconst (v := (-1)) dX10_book_248 (by decide +kernel) (Eq.refl 249) ?_
        refine Tr.iload dX10_book_249 rfl (Eq.refl 251) ?_
        refine Tr.isub dX10_book_251 (Eq.refl 252) ?_
        refine Tr.iret dX10_book_252 rfl (by first | rfl | exact bI_nar _) ?_ ?_
        · exact hy.1.symm
        · exact hy.2
set_option maxHeartbeats 4000000 in
set_option maxRecDepth 100000 in
theorem m_bkQ (E : EnvT) (ad : Nat → Nat) (V : Vil) (D : Dvi) (tp : Nat) (T : Nat → Nat) (k : Tki) (f : Nat) (fa : Int32) (VR : Vil) (XR : Vix) (N : Nwi) (J : Jk) (K : Nat → Int32) (kb : Nat → Bool) (fn : Nat) (hb : Bool) (F : Nat → Nat) (b : Bki) (P : Nat → Nat) (L : Nat → Int32) (ja : Nat) (g : Nat) (hbr : ∀ j, j < b.1 → b.2.1 j ≤ 99 ∧ b.2.2.1 j < 5 ∧ b.2.2.2 j ≤ 5) (hs : b.1 ≤ 150) (hV : Vok V) (hg : g ≤ b.1) (hi : ∀ k, k < g → ioB V b k = true) : ∀ (n q d : Nat) (S : Scn) (W : Nat → Nat) (B : Nat → Int32), q + n = 100 → psS S = q → d ≤ g → Sok V S → (∀ k, d ≤ k → k < g → q ≤ b.2.1 k) → Tr (E, mX10_book, ad, some (.int (fcH b g (fcG V (ovr V ((-1, -1, J.1, -1, false, J.2.1) : Ovr)) L b g n d S W B).1)), (mA E ad V D tp T k f fa VR XR N (J.1, J.2.1, J.2.2.1, J.2.2.2.1, (fcG V (ovr V ((-1, -1, J.1, -1, false, J.2.1) : Ovr)) L b g n d S W B).2.2.1, (fcG V (ovr V ((-1, -1, J.1, -1, false, J.2.1) : Ovr)) L b g n d S W B).2.2.2, rwF (fcG V (ovr V ((-1, -1, J.1, -1, false, J.2.1) : Ovr)) L b g n d S W B).2.1 P L ja, J.2.2.2.2.2.2.2) K kb fn hb F b)) 0 0 79 [some (.ref (ad 0)), some (.int (nI g)), some (.int (nI d)), none, none, none] [] (mA E ad V D tp T k f fa VR XR N (J.1, J.2.1, J.2.2.1, J.2.2.2.1, W, B, rwF S P L ja, J.2.2.2.2.2.2.2) K kb fn hb F b) := by
  have hp5 := hV.2.1
  intro n
  induction n with
  | zero =>
    intro q d S W B h hq hd hS hlo
    have hdg : ¬ d < g := fun z => by have := hlo d (Nat.le_refl _) z; have := (hbr d (by omega)).1; omega
    have hu : (fcG V (ovr V ((-1, -1, J.1, -1, false, J.2.1) : Ovr)) L b g 0 d S W B) = (1000, S, W, B) := rfl
    rw [hu]
    refine Tr.iload_n (i := 2) dX10_book_79 rfl rfl (Eq.refl 80) ?_
    refine Tr.iload_n (i := 1) dX10_book_80 rfl rfl (Eq.refl 81) ?_
    refine Tr.icmp_geN (tgt := 262) dX10_book_81 (by decide) (Eq.refl 84) (by omega) (by omega) (fun h81 => ?_) (fun h81 => ?_)
    · refine Tr.iload_n (i := 1) dX10_book_262 rfl rfl (Eq.refl 263) ?_
      refine Tr.aload_n (i := 0) dX10_book_263 rfl rfl (Eq.refl 264) ?_
      refine Tr.getf dX10_book_264 fX10_474 rfl rfl (Eq.refl 267) ?_
      refine Tr.icmp_geN (tgt := 276) dX10_book_267 (by decide) (Eq.refl 270) (by omega) (by omega) (fun h267 => ?_) (fun h267 => ?_)
      · rw [show fcH b g 1000 = nI b.1 by unfold fcH; rw [if_neg (by decide), if_neg (by omega)]]
        refine Tr.aload_n (i := 0) dX10_book_276 rfl rfl (Eq.refl 277) ?_
        refine Tr.getf dX10_book_277 fX10_474 rfl rfl (Eq.refl 280) ?_
        refine Tr.iret dX10_book_280 rfl (by first | rfl | exact bI_nar _) ?_ ?_
        · rfl
        · rfl
      · rw [show fcH b g 1000 = -1 - nI g by unfold fcH; rw [if_neg (by decide), if_pos (by omega)]]
        refine Tr.iconst (v := (-1)) dX10_book_270 (by decide +kernel) (Eq.refl 271) ?_
        refine Tr.iload_n (i := 1) dX10_book_271 rfl rfl (Eq.refl 272) ?_
        refine Tr.isub dX10_book_272 (Eq.refl 273) ?_
        refine Tr.goto (pc' := 280) dX10_book_273 (by decide) ?_
        refine Tr.iret dX10_book_280 rfl (by first | rfl | exact bI_nar _) ?_ ?_
        · rfl
        · rfl
    · exact absurd h81 (by omega)
  | succ n ih =>
    intro q d S W B h hq hd hS hlo
    by_cases hdg : d < g
    · have hu : (fcG V (ovr V ((-1, -1, J.1, -1, false, J.2.1) : Ovr)) L b g (n + 1) d S W B) = if ckF (gon (ovr V ((-1, -1, J.1, -1, false, J.2.1) : Ovr)) L (pqR V b S W d g).2 S) b ((pqR V b S W d g).1 - d) d < (pqR V b S W d g).1 then (ckF (gon (ovr V ((-1, -1, J.1, -1, false, J.2.1) : Ovr)) L (pqR V b S W d g).2 S) b ((pqR V b S W d g).1 - d) d, gon (ovr V ((-1, -1, J.1, -1, false, J.2.1) : Ovr)) L (pqR V b S W d g).2 S, (pqR V b S W d g).2, lbF (pqR V b S W d g).2 S B (npV V)) else (fcG V (ovr V ((-1, -1, J.1, -1, false, J.2.1) : Ovr)) L b g n (pqR V b S W d g).1 (gon (ovr V ((-1, -1, J.1, -1, false, J.2.1) : Ovr)) L (pqR V b S W d g).2 S) (pqR V b S W d g).2 (lbF (pqR V b S W d g).2 S B (npV V))) := if_pos hdg
      rw [hu]
      clear hu
      have hrg := prF_rg (t := psS S) (b := b) (g - d) d (pre (whS S) W (npV V))
      have hst := prF_stop (t := psS S) (b := b) (g - d) d (pre (whS S) W (npV V))
      have hok := prF_ok (V := V) (t := psS S) (b := b) (g := g) (fun k hk => (ioB_all (hi k hk)).2.1) (g - d) d (pre (whS S) W (npV V)) (by omega) (pre_ok hS)
      have hP1 : (pqR V b S W d g).1 = (prF (psS S) b (g - d) d (pre (whS S) W (npV V))).1 := rfl
      have hP2 : (pqR V b S W d g).2 = wkF V (psS S) (prF (psS S) b (g - d) d (pre (whS S) W (npV V))).2 (npV V) := rfl
      rw [hP1, hP2]
      clear hP1 hP2
      refine Tr.iload_n (i := 2) dX10_book_79 rfl rfl (Eq.refl 80) ?_
      refine Tr.iload_n (i := 1) dX10_book_80 rfl rfl (Eq.refl 81) ?_
      refine Tr.icmp_geN (tgt := 262) dX10_book_81 (by decide) (Eq.refl 84) (by omega) (by omega) (fun h81 => ?_) (fun h81 => ?_)
      · exact absurd h81 (by omega)
      · refine Tr.aload_n (i := 0) dX10_book_84 rfl rfl (Eq.refl 85) ?_
        refine Tr.getf dX10_book_85 fX10_222 rfl rfl (Eq.refl 88) ?_
        refine Tr.bipush (v := nI 55) dX10_book_88 (by decide +kernel) (Eq.refl 90) ?_
        refine Tr.ialdN dX10_book_90 rfl (by omega) (by decide) (Eq.refl 91) ?_
        refine Tr.top (y := nI (psS S)) rfl ?_
        refine Tr.istore_n (i := 3) dX10_book_91 rfl rfl rfl (Eq.refl 92) ?_
        refine Tr.iconst (v := nI 0) dX10_book_92 (icN 0) (Eq.refl 93) ?_
        refine Tr.istore dX10_book_93 rfl rfl (Eq.refl 95) ?_
        skip
        refine Tr.mask [true, true, true, true, true, false] (lv' := [some (.ref (ad 0)), some (.int (nI g)), some (.int (nI d)), some (.int (nI (psS S))), some (.int (nI 0)), none]) rfl ?_
        refine Tr.pic (w' := (mA E ad V D tp T k f fa VR XR N (J.1, J.2.1, J.2.2.1, J.2.2.2.1, (pre (whS S) W 0), B, rwF S P L ja, J.2.2.2.2.2.2.2) K kb fn hb F b)) (by rw [pre_0]) ?_
        refine loopD (P := fun j => Tr _ 0 0 95 [some (.ref (ad 0)), some (.int (nI g)), some (.int (nI d)), some (.int (nI (psS S))), some (.int (nI j)), none] [] (mA E ad V D tp T k f fa VR XR N (J.1, J.2.1, J.2.2.1, J.2.2.2.1, (pre (whS S) W j), B, rwF S P L ja, J.2.2.2.2.2.2.2) K kb fn hb F b)) (npV V) ?_ (fun j hj ih2 => ?_)
        · generalize pre (whS S) W (npV V) = W1 at *
          refine Tr.iload dX10_book_95 rfl (Eq.refl 97) ?_
          refine Tr.aload_n (i := 0) dX10_book_97 rfl rfl (Eq.refl 98) ?_
          refine Tr.getf dX10_book_98 fX10_285 rfl rfl (Eq.refl 101) ?_
          refine Tr.icmp_geN (tgt := 126) dX10_book_101 (by decide) (Eq.refl 104) (by omega) (by omega) (fun h101 => ?_) (fun h101 => ?_)
          · refine Tr.iload_n (i := 2) dX10_book_126 rfl rfl (Eq.refl 127) ?_
            refine Tr.istore dX10_book_127 rfl rfl (Eq.refl 129) ?_
            refine m_bkP E ad V D tp T k f fa VR XR N J K kb fn hb F b P L ja g (psS S) d B S _ _ hbr hs hV hg (by omega) (g - d) d W1 (by omega) (fun y hy => ?_)
            rw [← hy] at hrg hst hok ⊢
            clear hy
            refine Tr.iconst (v := nI 0) dX10_book_167 (icN 0) (Eq.refl 168) ?_
            refine Tr.istore dX10_book_168 rfl rfl (Eq.refl 170) ?_
            skip
            refine Tr.mask [true, true, true, true, true, true] (lv' := [some (.ref (ad 0)), some (.int (nI g)), some (.int (nI y.1)), some (.int (nI (psS S))), some (.int (nI d)), some (.int (nI 0))]) rfl ?_
            refine loopD (P := fun j => Tr _ 0 0 170 [some (.ref (ad 0)), some (.int (nI g)), some (.int (nI y.1)), some (.int (nI (psS S))), some (.int (nI d)), some (.int (nI j))] [] (mA E ad V D tp T k f fa VR XR N (J.1, J.2.1, J.2.2.1, J.2.2.2.1, (wkF V (psS S) y.2 j), B, rwF S P L ja, J.2.2.2.2.2.2.2) K kb fn hb F b)) (npV V) ?_ (fun j hj ih2 => ?_)
            · have hW3 : Wok V (wkF V (psS S) y.2 (npV V)) := wkF_ok hok _
              generalize wkF V (psS S) y.2 (npV V) = W3 at *
              refine Tr.iload dX10_book_170 rfl (Eq.refl 172) ?_
              refine Tr.aload_n (i := 0) dX10_book_172 rfl rfl (Eq.refl 173) ?_
              refine Tr.getf dX10_book_173 fX10_285 rfl rfl (Eq.refl 176) ?_
              refine Tr.icmp_geN (tgt := 206) dX10_book_176 (by decide) (Eq.refl 179) (by omega) (by omega) (fun h176 => ?_) (fun h176 => ?_)
              · skip
                have hlo2 : ∀ k, y.1 ≤ k → k < g → q + 1 ≤ b.2.1 k := fun k h1 h2 => by
                  have z1 := hst (by omega)
                  have z2 := hlo y.1 hrg.1 (by omega)
                  have z3 := io_mono hi (k - y.1) y.1 (by omega)
                  rw [show y.1 + (k - y.1) = k by omega] at z3
                  omega
                have hS2 : Sok V (gon (ovr V ((-1, -1, J.1, -1, false, J.2.1) : Ovr)) L W3 S) := gon_ok (V := ovr V ((-1, -1, J.1, -1, false, J.2.1) : Ovr)) hS hW3
                have hp2 : psS (gon (ovr V ((-1, -1, J.1, -1, false, J.2.1) : Ovr)) L W3 S) = q + 1 := by rw [gon_ps, hq]
                refine Tr.mask [true, true, true, true, true, false] (lv' := [some (.ref (ad 0)), some (.int (nI g)), some (.int (nI y.1)), some (.int (nI (psS S))), some (.int (nI d)), none]) rfl ?_
                refine Tr.aload_n (i := 0) dX10_book_206 rfl rfl (Eq.refl 207) ?_
                refine Tr.aload_n (i := 0) dX10_book_207 rfl rfl (Eq.refl 208) ?_
                refine Tr.getf dX10_book_208 fX10_222 rfl rfl (Eq.refl 211) ?_
                refine Tr.callV (L := [0, 2, 5, 7, 8, 9, 10, 22, 23, 21]) (m_goQuarter E _ (rA ad) (iA V D tp k f fa VR XR (J.1, J.2.1, J.2.2.1, J.2.2.2.1, W3, B, rwF S P L ja, J.2.2.2.2.2.2.2) fn hb b) V ((-1, -1, J.1, -1, false, J.2.1) : Ovr) W3 B S P L ja hV (Sok.le hV hS) hW3 (by omega)) dX10_book_211 (kX10_392 (Nat.le_of_ble_eq_true rfl)) iX10_goQuarter rfl rfl rfl rfl rfl rfl rfl rfl rfl rfl (Eq.refl 214) ?_
                refine Tr.pic (w' := (mA E ad V D tp T k f fa VR XR N (J.1, J.2.1, J.2.2.1, J.2.2.2.1, W3, (lbF W3 S B (npV V)), rwF (gon (ovr V ((-1, -1, J.1, -1, false, J.2.1) : Ovr)) L W3 S) P L ja, J.2.2.2.2.2.2.2) K kb fn hb F b)) (putB_eq (Lc := [1, 3, 4, 6, 11, 12, 13, 14, 15, 16, 17, 18, 19, 20, 24, 25, 26, 27, 28, 29, 30, 31]) 32 rfl rfl rfl rfl ⟨⟨_, rfl, rfl⟩, ⟨_, rfl, rfl⟩, ⟨_, rfl, rfl⟩, ⟨_, rfl, rfl⟩, ⟨_, rfl, rfl⟩, ⟨_, rfl, rfl⟩, ⟨_, rfl, rfl⟩, ⟨_, rfl, rfl⟩, ⟨_, rfl, rfl⟩, ⟨_, rfl, rfl⟩, ⟨_, rfl, rfl⟩, ⟨_, rfl, rfl⟩, ⟨_, rfl, rfl⟩, ⟨_, rfl, rfl⟩, ⟨_, rfl, rfl⟩, ⟨_, rfl, rfl⟩, ⟨_, rfl, rfl⟩, ⟨_, rfl, rfl⟩, ⟨_, rfl, rfl⟩, ⟨_, rfl, rfl⟩, ⟨_, rfl, rfl⟩, ⟨_, rfl, rfl⟩, trivial⟩ (by decide) rfl) ?_
                generalize gon (ovr V ((-1, -1, J.1, -1, false, J.2.1) : Ovr)) L W3 S = S2 at *
                generalize lbF W3 S B (npV V) = B2 at *
                refine Tr.iload dX10_book_214 rfl (Eq.refl 216) ?_
                refine Tr.istore dX10_book_216 rfl rfl (Eq.refl 218) ?_
                skip
                have hc := ckF_le S2 b (y.1 - d) d
                refine Tr.mask [true, true, true, false, false, true] (lv' := [some (.ref (ad 0)), some (.int (nI g)), some (.int (nI y.1)), none, none, some (.int (nI d))]) rfl ?_
                refine m_bkC E ad V D tp T k f fa VR XR N J K kb fn hb F b P L ja g y.1 W3 B2 S2 _ _ hbr hs hV (by omega) (Sok.le hV hS2) (fun k hk => (ioB_all (hi k (by omega))).1) (y.1 - d) d (by omega) (fun he => ?_) (fun he => by rw [if_pos he]; exact ⟨by unfold fcH; rw [if_pos (by omega)], rfl⟩)
                rw [if_neg (by omega)]
                exact ih (q + 1) y.1 S2 W3 B2 (by omega) hp2 (by omega) hS2 hlo2
              · exact absurd h176 (by omega)
            · have hu : wkF V (psS S) y.2 (j + 1) = if wkB V j (psS S) then upN (wkF V (psS S) y.2 j) j 5 else wkF V (psS S) y.2 j := rfl
              rw [hu] at ih2
              clear hu
              generalize wkF V (psS S) y.2 j = W2 at *
              refine Tr.iload dX10_book_170 rfl (Eq.refl 172) ?_
              refine Tr.aload_n (i := 0) dX10_book_172 rfl rfl (Eq.refl 173) ?_
              refine Tr.getf dX10_book_173 fX10_285 rfl rfl (Eq.refl 176) ?_
              refine Tr.icmp_geN (tgt := 206) dX10_book_176 (by decide) (Eq.refl 179) (by omega) (by omega) (fun h176 => ?_) (fun h176 => ?_)
              · exact absurd h176 (by omega)
              · refine Tr.aload_n (i := 0) dX10_book_179 rfl rfl (Eq.refl 180) ?_
                refine Tr.aload_n (i := 0) dX10_book_180 rfl rfl (Eq.refl 181) ?_
                refine Tr.getf dX10_book_181 fX10_222 rfl rfl (Eq.refl 184) ?_
                refine Tr.iload dX10_book_184 rfl (Eq.refl 186) ?_
                refine Tr.callVr (L := [0, 2, 5, 7, 8, 9, 10, 22, 23, 21]) (m_works E _ (rA ad) (iA V D tp k f fa VR XR (J.1, J.2.1, J.2.2.1, J.2.2.2.1, W2, B, rwF S P L ja, J.2.2.2.2.2.2.2) fn hb b) V ((-1, -1, J.1, -1, false, J.2.1) : Ovr) W2 B S P L ja j hV hj (by omega)) dX10_book_186 (kX10_338 (Nat.le_of_ble_eq_true rfl)) iX10_works rfl rfl rfl rfl rfl rfl rfl rfl rfl (Eq.refl 189) ?_
                refine Tr.if_eqB (tgt := 200) dX10_book_189 (by decide) (Eq.refl 192) (fun h189 => ?_) (fun h189 => ?_)
                · rw [if_neg (show ¬ wkB V j (psS S) = true by rw [h189]; exact nft)] at ih2
                  refine Tr.iincN dX10_book_200 rfl rfl rfl (Eq.refl 203) ?_
                  refine Tr.goto (pc' := 170) dX10_book_203 (by decide) ?_
                  exact Tr.eqs rfl rfl rfl ih2
                · rw [if_pos h189] at ih2
                  refine Tr.aload_n (i := 0) dX10_book_192 rfl rfl (Eq.refl 193) ?_
                  refine Tr.getf dX10_book_193 fX10_236 rfl rfl (Eq.refl 196) ?_
                  refine Tr.iload dX10_book_196 rfl (Eq.refl 198) ?_
                  refine Tr.iconst (v := nI 5) dX10_book_198 (icN 5) (Eq.refl 199) ?_
                  refine Tr.iastN dX10_book_199 rfl (by omega) (by decide) (Eq.refl 200) ?_
                  refine Tr.pic (w' := (mA E ad V D tp T k f fa VR XR N (J.1, J.2.1, J.2.2.1, J.2.2.2.1, (upN W2 j 5), B, rwF S P L ja, J.2.2.2.2.2.2.2) K kb fn hb F b)) (by unfold mA; rw [show (fun k => nI (((J.1, J.2.1, J.2.2.1, J.2.2.2.1, (upN W2 j 5), B, rwF S P L ja, J.2.2.2.2.2.2.2) : Jk).2.2.2.2.1 k)) = upd (fun k => nI (W2 k)) j (nI 5) from nI_upN _ _ _]; rfl) ?_
                  refine Tr.iincN dX10_book_200 rfl rfl rfl (Eq.refl 203) ?_
                  refine Tr.goto (pc' := 170) dX10_book_203 (by decide) ?_
                  exact Tr.eqs rfl rfl rfl ih2
          · exact absurd h101 (by omega)
        · have hcp := nI_pre (whS S) W j
          refine Tr.iload dX10_book_95 rfl (Eq.refl 97) ?_
          refine Tr.aload_n (i := 0) dX10_book_97 rfl rfl (Eq.refl 98) ?_
          refine Tr.getf dX10_book_98 fX10_285 rfl rfl (Eq.refl 101) ?_
          refine Tr.icmp_geN (tgt := 126) dX10_book_101 (by decide) (Eq.refl 104) (by omega) (by omega) (fun h101 => ?_) (fun h101 => ?_)
          · exact absurd h101 (by omega)
          · refine Tr.aload_n (i := 0) dX10_book_104 rfl rfl (Eq.refl 105) ?_
            refine Tr.getf dX10_book_105 fX10_236 rfl rfl (Eq.refl 108) ?_
            refine Tr.iload dX10_book_108 rfl (Eq.refl 110) ?_
            refine Tr.aload_n (i := 0) dX10_book_110 rfl rfl (Eq.refl 111) ?_
            refine Tr.getf dX10_book_111 fX10_222 rfl rfl (Eq.refl 114) ?_
            refine Tr.iconst (v := nI 0) dX10_book_114 (icN 0) (Eq.refl 115) ?_
            refine Tr.iload dX10_book_115 rfl (Eq.refl 117) ?_
            refine Tr.iaddN dX10_book_117 (Eq.refl 118) ?_
            refine Tr.ialdN dX10_book_118 rfl (by omega) (by decide) (Eq.refl 119) ?_
            refine Tr.top (y := nI (whS S j)) (rd_wh (S := S) (P := P) (L := L) (a := ja) (by omega)) ?_
            refine Tr.iastN dX10_book_119 rfl (by omega) (by decide) (Eq.refl 120) ?_
            refine Tr.pic (w' := (mA E ad V D tp T k f fa VR XR N (J.1, J.2.1, J.2.2.1, J.2.2.2.1, (pre (whS S) W (j + 1)), B, rwF S P L ja, J.2.2.2.2.2.2.2) K kb fn hb F b)) (by unfold mA; rw [show (fun k => nI (((J.1, J.2.1, J.2.2.1, J.2.2.2.1, (pre (whS S) W (j + 1)), B, rwF S P L ja, J.2.2.2.2.2.2.2) : Jk).2.2.2.2.1 k)) = upd (fun k => nI (pre (whS S) W j k)) j (nI (whS S j)) from hcp.symm]; rfl) ?_
            refine Tr.iincN dX10_book_120 rfl rfl rfl (Eq.refl 123) ?_
            refine Tr.goto (pc' := 95) dX10_book_123 (by decide) ?_
            exact Tr.eqs rfl rfl rfl ih2
    · have hu : (fcG V (ovr V ((-1, -1, J.1, -1, false, J.2.1) : Ovr)) L b g (n + 1) d S W B) = (1000, S, W, B) := if_neg hdg
      rw [hu]
      refine Tr.iload_n (i := 2) dX10_book_79 rfl rfl (Eq.refl 80) ?_
      refine Tr.iload_n (i := 1) dX10_book_80 rfl rfl (Eq.refl 81) ?_
      refine Tr.icmp_geN (tgt := 262) dX10_book_81 (by decide) (Eq.refl 84) (by omega) (by omega) (fun h81 => ?_) (fun h81 => ?_)
      · refine Tr.iload_n (i := 1) dX10_book_262 rfl rfl (Eq.refl 263) ?_
        refine Tr.aload_n (i := 0) dX10_book_263 rfl rfl (Eq.refl 264) ?_
        refine Tr.getf dX10_book_264 fX10_474 rfl rfl (Eq.refl 267) ?_
        refine Tr.icmp_geN (tgt := 276) dX10_book_267 (by decide) (Eq.refl 270) (by omega) (by omega) (fun h267 => ?_) (fun h267 => ?_)
        · rw [show fcH b g 1000 = nI b.1 by unfold fcH; rw [if_neg (by decide), if_neg (by omega)]]
          refine Tr.aload_n (i := 0) dX10_book_276 rfl rfl (Eq.refl 277) ?_
          refine Tr.getf dX10_book_277 fX10_474 rfl rfl (Eq.refl 280) ?_
          refine Tr.iret dX10_book_280 rfl (by first | rfl | exact bI_nar _) ?_ ?_
          · rfl
          · rfl
        · rw [show fcH b g 1000 = -1 - nI g by unfold fcH; rw [if_neg (by decide), if_pos (by omega)]]
          refine Tr.iconst (v := (-1)) dX10_book_270 (by decide +kernel) (Eq.refl 271) ?_
          refine Tr.iload_n (i := 1) dX10_book_271 rfl rfl (Eq.refl 272) ?_
          refine Tr.isub dX10_book_272 (Eq.refl 273) ?_
          refine Tr.goto (pc' := 280) dX10_book_273 (by decide) ?_
          refine Tr.iret dX10_book_280 rfl (by first | rfl | exact bI_nar _) ?_ ?_
          · rfl
          · rfl
      · exact absurd h81 (by omega)
theorem bpW_at (np : Nat) (ho W : Nat → Nat) : ∀ n p, p < n → bpW np ho W n p = if p < np then ho p else 5 := by
  intro n
  induction n with
  | zero => intro p h; exact absurd h (by omega)
  | succ n ih =>
    intro p h
    unfold bpW
    by_cases e : p = n
    · subst e; rw [upN_self]
    · rw [upN_ne _ _ e]; exact ih p (by omega)
theorem bgS_wh {nh np : Nat} {so st : Nat → Int32} {ho : Nat → Nat} {p : Nat} (h5 : np ≤ 5) (h : p < np) : whS (bgS nh np so st ho) p = ho p := by
  show bpW np ho (fun _ => 0) 5 p = _
  rw [bpW_at _ _ _ 5 p (by omega), if_pos h]
set_option maxHeartbeats 4000000 in
set_option maxRecDepth 100000 in
theorem m_bkB (E : EnvT) (ad : Nat → Nat) (V : Vil) (D : Dvi) (tp : Nat) (T : Nat → Nat) (k : Tki) (f : Nat) (fa : Int32) (VR : Vil) (XR : Vix) (N : Nwi) (J : Jk) (K : Nat → Int32) (kb : Nat → Bool) (fn : Nat) (hb : Bool) (F : Nat → Nat) (b : Bki) (ja g : Nat) (S0 : Scn) (P0 : Nat → Nat) (L0 : Nat → Int32) (hS0 : S0 = (bgS (nhV V) (npV V) D.1 D.2.1 (hoV V))) (hP0 : P0 = (bpP (npV V) (hoV V) (fun _ => 0) 5)) (hL0 : L0 = (bpL (fun _ => 0) 5)) (hbr : ∀ j, j < b.1 → b.2.1 j ≤ 99 ∧ b.2.2.1 j < 5 ∧ b.2.2.2 j ≤ 5) (hs : b.1 ≤ 150) (hV : Vok V) (hja : J.2.2.2.2.2.2.1 56 = nI ja) (hg : g ≤ b.1) (hi : ∀ k, k < g → ioB V b k = true) : Tr (E, mX10_book, ad, some (.int (fcH b g (fcG V (ovr V ((-1, -1, J.1, -1, false, J.2.1) : Ovr)) (pre N.2.2.1 L0 (npV V)) b g 100 0 S0 J.2.2.2.2.1 J.2.2.2.2.2.1).1)), (mA E ad V D tp T k f fa VR XR N (J.1, J.2.1, J.2.2.1, J.2.2.2.1, (fcG V (ovr V ((-1, -1, J.1, -1, false, J.2.1) : Ovr)) (pre N.2.2.1 L0 (npV V)) b g 100 0 S0 J.2.2.2.2.1 J.2.2.2.2.2.1).2.2.1, (fcG V (ovr V ((-1, -1, J.1, -1, false, J.2.1) : Ovr)) (pre N.2.2.1 L0 (npV V)) b g 100 0 S0 J.2.2.2.2.1 J.2.2.2.2.2.1).2.2.2, rwF (fcG V (ovr V ((-1, -1, J.1, -1, false, J.2.1) : Ovr)) (pre N.2.2.1 L0 (npV V)) b g 100 0 S0 J.2.2.2.2.1 J.2.2.2.2.2.1).2.1 P0 (pre N.2.2.1 L0 (npV V)) ja, J.2.2.2.2.2.2.2) K kb fn hb F b)) 0 0 35 [some (.ref (ad 0)), some (.int (nI g)), none, none, none, none] [] (mA E ad V D tp T k f fa VR XR N J K kb fn hb F b) := by
  have hh5 := hV.1
  have hp5 := hV.2.1
  have hho : ∀ p, p < npV V → hoV V p ≤ 5 := fun p hp => by have := hV.2.2.2.1 p hp; omega
  have hSo : Sok V S0 := fun p hp => by
    rw [hS0]
    have e : whS (bgS (nhV V) (npV V) D.1 D.2.1 (hoV V)) p = hoV V p := bgS_wh hp5 hp
    rw [e]
    exact hV.2.2.2.1 p hp
  have hps : psS S0 = 0 := by rw [hS0]; rfl
  have hL := m_bkQ E ad V D tp T k f fa VR XR N J K kb fn hb F b P0 (pre N.2.2.1 L0 (npV V)) ja g hbr hs hV hg hi 100 0 0 S0 J.2.2.2.2.1 J.2.2.2.2.2.1 rfl hps (Nat.zero_le _) hSo (fun _ _ _ => Nat.zero_le _)
  generalize (fcG V (ovr V ((-1, -1, J.1, -1, false, J.2.1) : Ovr)) (pre N.2.2.1 L0 (npV V)) b g 100 0 S0 J.2.2.2.2.1 J.2.2.2.2.2.1) = y at *
  refine Tr.aload_n (i := 0) dX10_book_35 rfl rfl (Eq.refl 36) ?_
  refine Tr.aload_n (i := 0) dX10_book_36 rfl rfl (Eq.refl 37) ?_
  refine Tr.getf dX10_book_37 fX10_222 rfl rfl (Eq.refl 40) ?_
  refine Tr.callV (L := [0, 4, 6, 8, 21]) (m_begin E _ (rA ad) (iA V D tp k f fa VR XR J fn hb b) (nhV V) (npV V) D.1 D.2.1 (hoV V) J.2.2.2.2.2.2.1 ja hh5 hp5 hho hja) dX10_book_40 (kX10_268 (Nat.le_of_ble_eq_true rfl)) iX10_begin rfl rfl rfl rfl rfl rfl rfl rfl rfl rfl (Eq.refl 43) ?_
  refine Tr.pic (w' := (mA E ad V D tp T k f fa VR XR N (J.1, J.2.1, J.2.2.1, J.2.2.2.1, J.2.2.2.2.1, J.2.2.2.2.2.1, rwF (bgS (nhV V) (npV V) D.1 D.2.1 (hoV V)) (bpP (npV V) (hoV V) (fun _ => 0) 5) (bpL (fun _ => 0) 5) ja, J.2.2.2.2.2.2.2) K kb fn hb F b)) (putB_eq (Lc := [1, 2, 3, 5, 7, 9, 10, 11, 12, 13, 14, 15, 16, 17, 18, 19, 20, 22, 23, 24, 25, 26, 27, 28, 29, 30, 31]) 32 rfl rfl rfl rfl ⟨⟨_, rfl, rfl⟩, ⟨_, rfl, rfl⟩, ⟨_, rfl, rfl⟩, ⟨_, rfl, rfl⟩, ⟨_, rfl, rfl⟩, ⟨_, rfl, rfl⟩, ⟨_, rfl, rfl⟩, ⟨_, rfl, rfl⟩, ⟨_, rfl, rfl⟩, ⟨_, rfl, rfl⟩, ⟨_, rfl, rfl⟩, ⟨_, rfl, rfl⟩, ⟨_, rfl, rfl⟩, ⟨_, rfl, rfl⟩, ⟨_, rfl, rfl⟩, ⟨_, rfl, rfl⟩, ⟨_, rfl, rfl⟩, ⟨_, rfl, rfl⟩, ⟨_, rfl, rfl⟩, ⟨_, rfl, rfl⟩, ⟨_, rfl, rfl⟩, ⟨_, rfl, rfl⟩, ⟨_, rfl, rfl⟩, ⟨_, rfl, rfl⟩, ⟨_, rfl, rfl⟩, ⟨_, rfl, rfl⟩, ⟨_, rfl, rfl⟩, trivial⟩ (by decide) rfl) ?_
  rw [← hS0, ← hP0, ← hL0]
  refine Tr.iconst (v := nI 0) dX10_book_43 (icN 0) (Eq.refl 44) ?_
  refine Tr.istore_n (i := 2) dX10_book_44 rfl rfl rfl (Eq.refl 45) ?_
  skip
  refine Tr.mask [true, true, true, false, false, false] (lv' := [some (.ref (ad 0)), some (.int (nI g)), some (.int (nI 0)), none, none, none]) rfl ?_
  refine Tr.pic (w' := (mA E ad V D tp T k f fa VR XR N (J.1, J.2.1, J.2.2.1, J.2.2.2.1, J.2.2.2.2.1, J.2.2.2.2.2.1, rwF S0 P0 (pre N.2.2.1 L0 0) ja, J.2.2.2.2.2.2.2) K kb fn hb F b)) (by rw [pre_0]) ?_
  refine loopD (P := fun j => Tr _ 0 0 45 [some (.ref (ad 0)), some (.int (nI g)), some (.int (nI j)), none, none, none] [] (mA E ad V D tp T k f fa VR XR N (J.1, J.2.1, J.2.2.1, J.2.2.2.1, J.2.2.2.2.1, J.2.2.2.2.2.1, rwF S0 P0 (pre N.2.2.1 L0 j) ja, J.2.2.2.2.2.2.2) K kb fn hb F b)) (npV V) ?_ (fun j hj ih => ?_)
  · refine Tr.iload_n (i := 2) dX10_book_45 rfl rfl (Eq.refl 46) ?_
    refine Tr.aload_n (i := 0) dX10_book_46 rfl rfl (Eq.refl 47) ?_
    refine Tr.getf dX10_book_47 fX10_285 rfl rfl (Eq.refl 50) ?_
    refine Tr.icmp_geN (tgt := 77) dX10_book_50 (by decide) (Eq.refl 53) (by omega) (by omega) (fun h50 => ?_) (fun h50 => ?_)
    · refine Tr.iconst (v := nI 0) dX10_book_77 (icN 0) (Eq.refl 78) ?_
      refine Tr.istore_n (i := 2) dX10_book_78 rfl rfl rfl (Eq.refl 79) ?_
      exact Tr.eqs rfl rfl rfl hL
    · exact absurd h50 (by omega)
  · refine Tr.iload_n (i := 2) dX10_book_45 rfl rfl (Eq.refl 46) ?_
    refine Tr.aload_n (i := 0) dX10_book_46 rfl rfl (Eq.refl 47) ?_
    refine Tr.getf dX10_book_47 fX10_285 rfl rfl (Eq.refl 50) ?_
    refine Tr.icmp_geN (tgt := 77) dX10_book_50 (by decide) (Eq.refl 53) (by omega) (by omega) (fun h50 => ?_) (fun h50 => ?_)
    · exact absurd h50 (by omega)
    · refine Tr.aload_n (i := 0) dX10_book_53 rfl rfl (Eq.refl 54) ?_
      refine Tr.getf dX10_book_54 fX10_222 rfl rfl (Eq.refl 57) ?_
      refine Tr.bipush (v := nI 30) dX10_book_57 (by decide +kernel) (Eq.refl 59) ?_
      refine Tr.iload_n (i := 2) dX10_book_59 rfl rfl (Eq.refl 60) ?_
      refine Tr.iaddN dX10_book_60 (Eq.refl 61) ?_
      refine Tr.aload_n (i := 0) dX10_book_61 rfl rfl (Eq.refl 62) ?_
      refine Tr.getf dX10_book_62 fX10_219 rfl rfl (Eq.refl 65) ?_
      refine Tr.bipush (v := nI 30) dX10_book_65 (by decide +kernel) (Eq.refl 67) ?_
      refine Tr.iload_n (i := 2) dX10_book_67 rfl rfl (Eq.refl 68) ?_
      refine Tr.iaddN dX10_book_68 (Eq.refl 69) ?_
      refine Tr.ialdN dX10_book_69 rfl (by omega) (by decide) (Eq.refl 70) ?_
      refine Tr.top (rd_le (by omega)) ?_
      refine Tr.iastN dX10_book_70 rfl (by omega) (by decide) (Eq.refl 71) ?_
      refine Tr.pic (w' := (mA E ad V D tp T k f fa VR XR N (J.1, J.2.1, J.2.2.1, J.2.2.2.1, J.2.2.2.2.1, J.2.2.2.2.2.1, rwF S0 P0 (pre N.2.2.1 L0 (j + 1)) ja, J.2.2.2.2.2.2.2) K kb fn hb F b)) (by unfold mA; rw [show ((J.1, J.2.1, J.2.2.1, J.2.2.2.1, J.2.2.2.2.1, J.2.2.2.2.2.1, rwF S0 P0 (pre N.2.2.1 L0 (j + 1)) ja, J.2.2.2.2.2.2.2) : Jk).2.2.2.2.2.2.1 = upd (rwF S0 P0 (pre N.2.2.1 L0 j) ja) (30 + j) (N.2.2.1 j) from by rw [wr_le (by omega), pre_s]]; rfl) ?_
      refine Tr.iincN dX10_book_71 rfl rfl rfl (Eq.refl 74) ?_
      refine Tr.goto (pc' := 45) dX10_book_74 (by decide) ?_
      exact Tr.eqs rfl rfl rfl ih
set_option maxHeartbeats 4000000 in
set_option maxRecDepth 100000 in
theorem m_bkG (E : EnvT) (ad : Nat → Nat) (V : Vil) (D : Dvi) (tp : Nat) (T : Nat → Nat) (k : Tki) (f : Nat) (fa : Int32) (VR : Vil) (XR : Vix) (N : Nwi) (J : Jk) (K : Nat → Int32) (kb : Nat → Bool) (fn : Nat) (hb : Bool) (F : Nat → Nat) (b : Bki) (r0 : Option Value) (w0 : List va_E) (hbr : ∀ j, j < b.1 → b.2.1 j ≤ 99 ∧ b.2.2.1 j < 5 ∧ b.2.2.2 j ≤ 5) (hs : b.1 ≤ 150) (hV : Vok V) : ∀ (n i : Nat), i + n = b.1 → (∀ g, g = goF V b n i → Tr (E, mX10_book, ad, r0, w0) 0 0 35 [some (.ref (ad 0)), some (.int (nI g)), none, none, none, none] [] (mA E ad V D tp T k f fa VR XR N J K kb fn hb F b)) → Tr (E, mX10_book, ad, r0, w0) 0 0 13 [some (.ref (ad 0)), some (.int (nI i)), none, none, none, none] [] (mA E ad V D tp T k f fa VR XR N J K kb fn hb F b) := by
  intro n
  induction n with
  | zero =>
    intro i h hx
    have hx := hx _ rfl
    refine Tr.iload_n (i := 1) dX10_book_13 rfl rfl (Eq.refl 14) ?_
    refine Tr.aload_n (i := 0) dX10_book_14 rfl rfl (Eq.refl 15) ?_
    refine Tr.getf dX10_book_15 fX10_474 rfl rfl (Eq.refl 18) ?_
    refine Tr.icmp_geN (tgt := 35) dX10_book_18 (by decide) (Eq.refl 21) (by omega) (by omega) (fun h18 => ?_) (fun h18 => ?_)
    · exact Tr.eqs rfl rfl rfl hx
    · exact absurd h18 (by omega)
  | succ n ih =>
    intro i h hx
    have hu : goF V b (n + 1) i = if ioB V b i then goF V b n (i + 1) else i := rfl
    rw [hu] at hx
    clear hu
    refine Tr.iload_n (i := 1) dX10_book_13 rfl rfl (Eq.refl 14) ?_
    refine Tr.aload_n (i := 0) dX10_book_14 rfl rfl (Eq.refl 15) ?_
    refine Tr.getf dX10_book_15 fX10_474 rfl rfl (Eq.refl 18) ?_
    refine Tr.icmp_geN (tgt := 35) dX10_book_18 (by decide) (Eq.refl 21) (by omega) (by omega) (fun h18 => ?_) (fun h18 => ?_)
    · exact absurd h18 (by omega)
    · refine Tr.aload_n (i := 0) dX10_book_21 rfl rfl (Eq.refl 22) ?_
      refine Tr.iload_n (i := 1) dX10_book_22 rfl rfl (Eq.refl 23) ?_
      refine Tr.callVs (m_isInOrder E ad V D tp T k f fa VR XR N J K kb fn hb F b i hbr hs hV (by omega)) dX10_book_23 (kX10_480 (Nat.le_of_ble_eq_true rfl)) iX10_isInOrder rfl rfl rfl rfl rfl (mA_le) rfl rfl (Eq.refl 26) ?_
      refine Tr.if_eqB (tgt := 35) dX10_book_26 (by decide) (Eq.refl 29) (fun h26 => ?_) (fun h26 => ?_)
      · rw [if_neg (by rw [h26]; exact nft)] at hx
        exact Tr.eqs rfl rfl rfl (hx _ rfl)
      · rw [if_pos h26] at hx
        refine Tr.iincN dX10_book_29 rfl rfl rfl (Eq.refl 32) ?_
        refine Tr.goto (pc' := 13) dX10_book_32 (by decide) ?_
        exact Tr.eqs rfl rfl rfl (ih (i + 1) (by omega) hx)
set_option maxHeartbeats 4000000 in
set_option maxRecDepth 100000 in
theorem m_bookN (E : EnvT) (ad : Nat → Nat) (V : Vil) (D : Dvi) (len : Nat) (T : Nat → Nat) (k : Tki) (f : Nat) (fa : Int32) (VR : Vil) (XR : Vix) (N : Nwi) (J : Jk) (K : Nat → Int32) (kb : Nat → Bool) (fn : Nat) (hb : Bool) (F : Nat → Nat) (b : Bki) (hl : len ≤ 900) (hTa : ∀ k, T k < 256) (hv : k.2.2.2.2.1 < 100000) (y : Bst len) (hRb : (rbF T (len + 1) (p0F len, tkV T len 0 k.2.2.2.2.1, k.2.2.2.2.2, 0, b.2)) = (false, y)) : Md E mX10_book ad [.ref (ad 0)] (mA E ad V D len T k f fa VR XR N J K kb fn hb F b) (some (.int (-1000))) (mA E ad V D 0 T (len, tkS T len y.1.1, tkE T len y.1.1, tkH T len y.1.1, y.2.1, y.2.2.1) f fa VR XR N J K kb fn hb F y.2.2.2) := by
  have hR := fun ad => m_readBook E ad V D len T f fa VR XR N J K kb fn hb F b k hl hTa hv
  rw [hRb] at hR
  refine Md.of 5 (by decide) rfl rfl ?_
  refine Tr.aload_n (i := 0) dX10_book_0 rfl rfl (Eq.refl 1) ?_
  refine Tr.callV (L := [0, 1, 2, 3, 4, 5, 6, 7, 8, 9, 10, 11, 12, 13, 14, 15, 16, 17, 18, 19, 20, 21, 22, 23, 24, 25, 26, 27, 28, 29, 30, 31]) (hR _) dX10_book_1 (kX10_477 (Nat.le_of_ble_eq_true rfl)) iX10_readBook rfl rfl rfl rfl rfl rfl rfl rfl rfl rfl (Eq.refl 4) ?_
  refine Tr.pic (w' := (mA E ad V D 0 T (len, tkS T len y.1.1, tkE T len y.1.1, tkH T len y.1.1, y.2.1, y.2.2.1) f fa VR XR N J K kb fn hb F y.2.2.2)) (putB_eq (Lc := []) 32 rfl rfl rfl rfl trivial (by decide) rfl) ?_
  refine Tr.if_neB (tgt := 11) dX10_book_4 (by decide) (Eq.refl 7) (fun h4 => ?_) (fun h4 => ?_)
  · exact absurd h4 nft
  · refine Tr.sipush (v := (-1000)) dX10_book_7 (by decide +kernel) (Eq.refl 10) ?_
    refine Tr.iret dX10_book_10 rfl (by first | rfl | exact bI_nar _) ?_ ?_
    · rfl
    · rfl
set_option maxHeartbeats 4000000 in
set_option maxRecDepth 100000 in
theorem m_bookY (E : EnvT) (ad : Nat → Nat) (V : Vil) (D : Dvi) (len : Nat) (T : Nat → Nat) (k : Tki) (f : Nat) (fa : Int32) (VR : Vil) (XR : Vix) (N : Nwi) (J : Jk) (K : Nat → Int32) (kb : Nat → Bool) (fn : Nat) (hb : Bool) (F : Nat → Nat) (b : Bki) (hl : len ≤ 900) (hTa : ∀ k, T k < 256) (hv : k.2.2.2.2.1 < 100000) (y : Bst len) (ja : Nat) (S0 : Scn) (P0 : Nat → Nat) (L0 : Nat → Int32) (hS0 : S0 = (bgS (nhV V) (npV V) D.1 D.2.1 (hoV V))) (hP0 : P0 = (bpP (npV V) (hoV V) (fun _ => 0) 5)) (hL0 : L0 = (bpL (fun _ => 0) 5)) (hRb : (rbF T (len + 1) (p0F len, tkV T len 0 k.2.2.2.2.1, k.2.2.2.2.2, 0, b.2)) = (true, y)) (hbr : ∀ j, j < y.2.2.2.1 → y.2.2.2.2.1 j ≤ 99 ∧ y.2.2.2.2.2.1 j < 5 ∧ y.2.2.2.2.2.2 j ≤ 5) (hs : y.2.2.2.1 ≤ 150) (hV : Vok V) (hja : J.2.2.2.2.2.2.1 56 = nI ja) : Md E mX10_book ad [.ref (ad 0)] (mA E ad V D len T k f fa VR XR N J K kb fn hb F b) (some (.int (fcH y.2.2.2 (goF V y.2.2.2 y.2.2.2.1 0) (fcG V (ovr V ((-1, -1, J.1, -1, false, J.2.1) : Ovr)) (pre N.2.2.1 L0 (npV V)) y.2.2.2 (goF V y.2.2.2 y.2.2.2.1 0) 100 0 S0 J.2.2.2.2.1 J.2.2.2.2.2.1).1))) (mA E ad V D 0 T (len, tkS T len y.1.1, tkE T len y.1.1, tkH T len y.1.1, y.2.1, y.2.2.1) f fa VR XR N (J.1, J.2.1, J.2.2.1, J.2.2.2.1, (fcG V (ovr V ((-1, -1, J.1, -1, false, J.2.1) : Ovr)) (pre N.2.2.1 L0 (npV V)) y.2.2.2 (goF V y.2.2.2 y.2.2.2.1 0) 100 0 S0 J.2.2.2.2.1 J.2.2.2.2.2.1).2.2.1, (fcG V (ovr V ((-1, -1, J.1, -1, false, J.2.1) : Ovr)) (pre N.2.2.1 L0 (npV V)) y.2.2.2 (goF V y.2.2.2 y.2.2.2.1 0) 100 0 S0 J.2.2.2.2.1 J.2.2.2.2.2.1).2.2.2, rwF (fcG V (ovr V ((-1, -1, J.1, -1, false, J.2.1) : Ovr)) (pre N.2.2.1 L0 (npV V)) y.2.2.2 (goF V y.2.2.2 y.2.2.2.1 0) 100 0 S0 J.2.2.2.2.1 J.2.2.2.2.2.1).2.1 P0 (pre N.2.2.1 L0 (npV V)) ja, J.2.2.2.2.2.2.2) K kb fn hb F y.2.2.2) := by
  have hR := fun ad => m_readBook E ad V D len T f fa VR XR N J K kb fn hb F b k hl hTa hv
  rw [hRb] at hR
  have hg := goF_le V y.2.2.2 y.2.2.2.1 0
  have hi : ∀ k, k < goF V y.2.2.2 y.2.2.2.1 0 → ioB V y.2.2.2 k = true := fun k hk => goF_in V y.2.2.2 y.2.2.2.1 0 k (Nat.zero_le _) hk
  have hB := m_bkB E ad V D 0 T (len, tkS T len y.1.1, tkE T len y.1.1, tkH T len y.1.1, y.2.1, y.2.2.1) f fa VR XR N J K kb fn hb F y.2.2.2 ja (goF V y.2.2.2 y.2.2.2.1 0) S0 P0 L0 hS0 hP0 hL0 hbr hs hV hja (by omega) hi
  generalize (fcG V (ovr V ((-1, -1, J.1, -1, false, J.2.1) : Ovr)) (pre N.2.2.1 L0 (npV V)) y.2.2.2 (goF V y.2.2.2 y.2.2.2.1 0) 100 0 S0 J.2.2.2.2.1 J.2.2.2.2.2.1) = yy at *
  refine Md.of 5 (by decide) rfl rfl ?_
  refine Tr.aload_n (i := 0) dX10_book_0 rfl rfl (Eq.refl 1) ?_
  refine Tr.callV (L := [0, 1, 2, 3, 4, 5, 6, 7, 8, 9, 10, 11, 12, 13, 14, 15, 16, 17, 18, 19, 20, 21, 22, 23, 24, 25, 26, 27, 28, 29, 30, 31]) (hR _) dX10_book_1 (kX10_477 (Nat.le_of_ble_eq_true rfl)) iX10_readBook rfl rfl rfl rfl rfl rfl rfl rfl rfl rfl (Eq.refl 4) ?_
  refine Tr.pic (w' := (mA E ad V D 0 T (len, tkS T len y.1.1, tkE T len y.1.1, tkH T len y.1.1, y.2.1, y.2.2.1) f fa VR XR N J K kb fn hb F y.2.2.2)) (putB_eq (Lc := []) 32 rfl rfl rfl rfl trivial (by decide) rfl) ?_
  refine Tr.if_neB (tgt := 11) dX10_book_4 (by decide) (Eq.refl 7) (fun h4 => ?_) (fun h4 => ?_)
  · refine Tr.iconst (v := nI 0) dX10_book_11 (icN 0) (Eq.refl 12) ?_
    refine Tr.istore_n (i := 1) dX10_book_12 rfl rfl rfl (Eq.refl 13) ?_
    refine Tr.mask [true, true, false, false, false, false] (lv' := [some (.ref (ad 0)), some (.int (nI 0)), none, none, none, none]) rfl ?_
    refine m_bkG E ad V D 0 T (len, tkS T len y.1.1, tkE T len y.1.1, tkH T len y.1.1, y.2.1, y.2.2.1) f fa VR XR N J K kb fn hb F y.2.2.2 _ _ hbr hs hV y.2.2.2.1 0 (by omega) (fun g' hg' => ?_)
    rw [hg']
    exact hB
  · exact absurd (show true = false from h4) (by decide)
