/-! THE REFERENCE: rules, ties -/
def sTw {len : Nat} (z : Rst len) (c : Nat) : Rst len := (z.1, z.2.1, z.2.2.1, z.2.2.2.1, (z.2.2.2.2.1.1, z.2.2.2.2.1.2.1 ||| (nI 1 <<< (nI c &&& 31)), z.2.2.2.2.1.2.2), z.2.2.2.2.2)
def sRl {len : Nat} (z : Rst len) : Rst len := (z.1, z.2.1, z.2.2.1, vLa z.2.2.2.1 true, z.2.2.2.2)
def sLw {len : Nat} (z : Rst len) (c : Nat) : Rst len := (z.1, z.2.1, z.2.2.1, vRu z.2.2.2.1 (upd (ruV z.2.2.2.1) c z.2.2.1), z.2.2.2.2)
/-- behind the rule's word -/
def rSy (T : Nat → Nat) {len : Nat} (c : Nat) (y : Rst len) : Bool × Rst len := if c = 6 then (true, sRl y) else if nuB T (ruL c) (ruM c) y then (true, sLw (nuR T (ruL c) (ruM c) y) c) else (false, nuR T (ruL c) (ruM c) y)
def rSm (T : Nat → Nat) {len : Nat} (z : Rst len) : Bool × Rst len :=
  if rwM T len z.1.1 < 7 then (if bt z.2.2.2.2.1.2.1 (rwM T len z.1.1) then (false, badR T z 3) else rSy T (rwM T len z.1.1) (advR T (sTw z (rwM T len z.1.1)))) else (false, badR T z 1)
theorem rwM_le (T : Nat → Nat) (len p : Nat) : rwM T len p ≤ 7 := by
  unfold rwM
  repeat' split
  all_goals omega
set_option maxHeartbeats 4000000 in
set_option maxRecDepth 100000 in
theorem m_readSmall (E : EnvT) (ad r : Nat → Nat) (i : Nat → Int32) (len : Nat) (T : Nat → Nat) (z : Rst len) (hl : len ≤ 900) (hTa : ∀ k, T k < 256) (hv : z.2.1 < 100000) : Md E mX10_readSmall ad [.ref (ad 0)] (mrP E ad r i len T z) (some (.int (bI (rSm T z).1))) (mrP E ad r i len T (rSm T z).2) := by
  have hT : ∀ k, k < 900 → T k < 256 := fun k _ => hTa k
  have hW := m_wordAt E ad r i len T z hl hT
  have hc7 := rwM_le T len z.1.1
  unfold rSm
  generalize rwM T len z.1.1 = c at *
  by_cases hc : c < 7
  · rw [if_pos hc]
    rw [show rwI c = nI c from if_pos hc] at hW
    have hv2 : (advR T (sTw z c)).2.1 < 100000 := tkV_lt hTa hv
    refine Md.of 1 (by decide) rfl rfl ?_
    refine Tr.aload_n (i := 0) dX10_readSmall_0 rfl rfl (Eq.refl 1) ?_
    refine Tr.callVs (hW) dX10_readSmall_1 (kX10_143 (Nat.le_of_ble_eq_true rfl)) iX10_wordAt rfl rfl rfl rfl rfl (mrP_le) rfl rfl (Eq.refl 4) ?_
    refine Tr.istore_n (i := 1) dX10_readSmall_4 rfl rfl rfl (Eq.refl 5) ?_
    refine Tr.iload_n (i := 1) dX10_readSmall_5 rfl rfl (Eq.refl 6) ?_
    refine Tr.iconst (v := (-1)) dX10_readSmall_6 (by decide +kernel) (Eq.refl 7) ?_
    refine Tr.icmp_ne (tgt := 16) dX10_readSmall_7 (by decide) (Eq.refl 10) (fun h7 => ?_) (fun h7 => ?_)
    · refine Tr.aload_n (i := 0) dX10_readSmall_16 rfl rfl (Eq.refl 17) ?_
      refine Tr.getf dX10_readSmall_17 fX10_146 rfl rfl (Eq.refl 20) ?_
      refine Tr.iload_n (i := 1) dX10_readSmall_20 rfl rfl (Eq.refl 21) ?_
      refine Tr.ishr dX10_readSmall_21 (Eq.refl 22) ?_
      refine Tr.iconst (v := nI 1) dX10_readSmall_22 (icN 1) (Eq.refl 23) ?_
      refine Tr.iand dX10_readSmall_23 (Eq.refl 24) ?_
      refine Tr.iconst (v := nI 1) dX10_readSmall_24 (icN 1) (Eq.refl 25) ?_
      refine Tr.icmp_ne (tgt := 34) dX10_readSmall_25 (by decide) (Eq.refl 28) (fun h25 => ?_) (fun h25 => ?_)
      · rw [if_neg (show ¬ bt z.2.2.2.2.1.2.1 c = true by unfold bt; rw [decide_eq_false h25]; decide)]
        refine Tr.aload_n (i := 0) dX10_readSmall_34 rfl rfl (Eq.refl 35) ?_
        refine Tr.dup dX10_readSmall_35 rfl (Eq.refl 36) ?_
        refine Tr.getf dX10_readSmall_36 fX10_146 rfl rfl (Eq.refl 39) ?_
        refine Tr.iconst (v := nI 1) dX10_readSmall_39 (icN 1) (Eq.refl 40) ?_
        refine Tr.iload_n (i := 1) dX10_readSmall_40 rfl rfl (Eq.refl 41) ?_
        refine Tr.ishl dX10_readSmall_41 (Eq.refl 42) ?_
        refine Tr.ior dX10_readSmall_42 (Eq.refl 43) ?_
        refine Tr.putf dX10_readSmall_43 pX10_146 rfl (rfl) (rfl) rfl (Eq.refl 46) ?_
        refine Tr.pic (w' := mrP E ad r i len T (sTw z c)) rfl ?_
        refine Tr.aload_n (i := 0) dX10_readSmall_46 rfl rfl (Eq.refl 47) ?_
        refine Tr.callV (L := [0, 1]) (m_scanV E _ (rR ad r) (iR (sTw z c).2.2.2.1 (sTw z c).2.2.2.2.1 i) len (sTw z c).1 (sTw z c).2.1 (sTw z c).2.2.1 (sTw z c).2.2.2.2.2.1 (sTw z c).2.2.2.2.2.2 T hl hT) dX10_readSmall_47 (kX10_59 (Nat.le_of_ble_eq_true rfl)) iX10_scan rfl rfl rfl rfl rfl rfl rfl rfl rfl rfl (Eq.refl 50) ?_
        refine Tr.pic (w' := mrP E ad r i len T (advR T (sTw z c))) (putB_eq (Lc := [2, 3, 4, 5, 6, 7, 8, 9, 10, 11]) 12 rfl rfl rfl rfl ⟨⟨_, rfl, rfl⟩, ⟨_, rfl, rfl⟩, ⟨_, rfl, rfl⟩, ⟨_, rfl, rfl⟩, ⟨_, rfl, rfl⟩, ⟨_, rfl, rfl⟩, ⟨_, rfl, rfl⟩, ⟨_, rfl, rfl⟩, ⟨_, rfl, rfl⟩, ⟨_, rfl, rfl⟩, trivial⟩ (by decide) rfl) ?_
        generalize advR T (sTw z c) = y at *
        unfold rSy
        refine Tr.iload_n (i := 1) dX10_readSmall_50 rfl rfl (Eq.refl 51) ?_
        refine Tr.bipush (v := nI 6) dX10_readSmall_51 (by decide +kernel) (Eq.refl 53) ?_
        refine Tr.icmp_neN (tgt := 63) dX10_readSmall_53 (by decide) (Eq.refl 56) (by omega) (by omega) (fun h53 => ?_) (fun h53 => ?_)
        · rw [if_neg h53]
          have hc6 : c < 6 := by omega
          refine Tr.aload_n (i := 0) dX10_readSmall_63 rfl rfl (Eq.refl 64) ?_
          refine Tr.iload_n (i := 1) dX10_readSmall_64 rfl rfl (Eq.refl 65) ?_
          refine Tr.if_ne (tgt := 72) dX10_readSmall_65 (by decide) (Eq.refl 68) (fun h65 => ?_) (fun h65 => ?_)
          · have hlo : nI 0 = ruL c := by rcases (show c = 0 ∨ c = 1 ∨ c = 2 ∨ c = 3 ∨ c = 4 ∨ c = 5 by omega) with rfl | rfl | rfl | rfl | rfl | rfl <;> first | rfl | exact absurd rfl h65
            refine Tr.iconst (v := nI 0) dX10_readSmall_72 (icN 0) (Eq.refl 73) ?_
            refine Tr.top hlo ?_
            refine Tr.iload_n (i := 1) dX10_readSmall_73 rfl rfl (Eq.refl 74) ?_
            refine Tr.callSr (L := []) (m_greatest E _ c hc6) dX10_readSmall_74 (kX10_153 (Nat.le_of_ble_eq_true rfl)) sX10_greatest rfl rfl rfl rfl rfl rfl rfl (Eq.refl 77) ?_
            refine Tr.callV (L := [0, 1]) (m_numberS E _ (rR ad r) (iR y.2.2.2.1 y.2.2.2.2.1 i) len y.1 y.2.1 y.2.2.1 y.2.2.2.2.2.1 y.2.2.2.2.2.2 T (ruL c) (ruM c) hl hT (by omega)) dX10_readSmall_77 (kX10_85 (Nat.le_of_ble_eq_true rfl)) iX10_number rfl rfl rfl rfl rfl rfl rfl rfl rfl rfl (Eq.refl 80) ?_
            refine Tr.pic (w' := mrP E ad r i len T (nuR T (ruL c) (ruM c) y)) (putB_eq (Lc := [2, 3, 4, 5, 6, 7, 8, 9, 10, 11]) 12 rfl rfl rfl rfl ⟨⟨_, rfl, rfl⟩, ⟨_, rfl, rfl⟩, ⟨_, rfl, rfl⟩, ⟨_, rfl, rfl⟩, ⟨_, rfl, rfl⟩, ⟨_, rfl, rfl⟩, ⟨_, rfl, rfl⟩, ⟨_, rfl, rfl⟩, ⟨_, rfl, rfl⟩, ⟨_, rfl, rfl⟩, trivial⟩ (by decide) rfl) ?_
            refine Tr.top (y := bI (nuB T (ruL c) (ruM c) y)) rfl ?_
            generalize nuR T (ruL c) (ruM c) y = u at *
            refine Tr.if_neB (tgt := 85) dX10_readSmall_80 (by decide) (Eq.refl 83) (fun h80 => ?_) (fun h80 => ?_)
            · rw [if_pos h80]
              refine Tr.aload_n (i := 0) dX10_readSmall_85 rfl rfl (Eq.refl 86) ?_
              refine Tr.getf dX10_readSmall_86 fX10_156 rfl rfl (Eq.refl 89) ?_
              refine Tr.iload_n (i := 1) dX10_readSmall_89 rfl rfl (Eq.refl 90) ?_
              refine Tr.aload_n (i := 0) dX10_readSmall_90 rfl rfl (Eq.refl 91) ?_
              refine Tr.getf dX10_readSmall_91 fX10_56 rfl rfl (Eq.refl 94) ?_
              refine Tr.iastN dX10_readSmall_94 rfl (by omega) (by decide) (Eq.refl 95) ?_
              refine Tr.iconst (v := nI 1) dX10_readSmall_95 (icN 1) (Eq.refl 96) ?_
              refine Tr.iret dX10_readSmall_96 rfl (by first | rfl | exact bI_nar _) ?_ ?_
              · rfl
              · rfl
            · rw [if_neg (by rw [h80]; decide)]
              refine Tr.iconst (v := nI 0) dX10_readSmall_83 (icN 0) (Eq.refl 84) ?_
              refine Tr.iret dX10_readSmall_84 rfl (by first | rfl | exact bI_nar _) ?_ ?_
              · rfl
              · rfl
          · have hlo : nI 1 = ruL c := by rw [(nI_eq_iff (b := 0) (by omega) (by decide)).mp h65]; rfl
            refine Tr.iconst (v := nI 1) dX10_readSmall_68 (icN 1) (Eq.refl 69) ?_
            refine Tr.goto (pc' := 73) dX10_readSmall_69 (by decide) ?_
            refine Tr.top hlo ?_
            refine Tr.iload_n (i := 1) dX10_readSmall_73 rfl rfl (Eq.refl 74) ?_
            refine Tr.callSr (L := []) (m_greatest E _ c hc6) dX10_readSmall_74 (kX10_153 (Nat.le_of_ble_eq_true rfl)) sX10_greatest rfl rfl rfl rfl rfl rfl rfl (Eq.refl 77) ?_
            refine Tr.callV (L := [0, 1]) (m_numberS E _ (rR ad r) (iR y.2.2.2.1 y.2.2.2.2.1 i) len y.1 y.2.1 y.2.2.1 y.2.2.2.2.2.1 y.2.2.2.2.2.2 T (ruL c) (ruM c) hl hT (by omega)) dX10_readSmall_77 (kX10_85 (Nat.le_of_ble_eq_true rfl)) iX10_number rfl rfl rfl rfl rfl rfl rfl rfl rfl rfl (Eq.refl 80) ?_
            refine Tr.pic (w' := mrP E ad r i len T (nuR T (ruL c) (ruM c) y)) (putB_eq (Lc := [2, 3, 4, 5, 6, 7, 8, 9, 10, 11]) 12 rfl rfl rfl rfl ⟨⟨_, rfl, rfl⟩, ⟨_, rfl, rfl⟩, ⟨_, rfl, rfl⟩, ⟨_, rfl, rfl⟩, ⟨_, rfl, rfl⟩, ⟨_, rfl, rfl⟩, ⟨_, rfl, rfl⟩, ⟨_, rfl, rfl⟩, ⟨_, rfl, rfl⟩, ⟨_, rfl, rfl⟩, trivial⟩ (by decide) rfl) ?_
            refine Tr.top (y := bI (nuB T (ruL c) (ruM c) y)) rfl ?_
            generalize nuR T (ruL c) (ruM c) y = u at *
            refine Tr.if_neB (tgt := 85) dX10_readSmall_80 (by decide) (Eq.refl 83) (fun h80 => ?_) (fun h80 => ?_)
            · rw [if_pos h80]
              refine Tr.aload_n (i := 0) dX10_readSmall_85 rfl rfl (Eq.refl 86) ?_
              refine Tr.getf dX10_readSmall_86 fX10_156 rfl rfl (Eq.refl 89) ?_
              refine Tr.iload_n (i := 1) dX10_readSmall_89 rfl rfl (Eq.refl 90) ?_
              refine Tr.aload_n (i := 0) dX10_readSmall_90 rfl rfl (Eq.refl 91) ?_
              refine Tr.getf dX10_readSmall_91 fX10_56 rfl rfl (Eq.refl 94) ?_
              refine Tr.iastN dX10_readSmall_94 rfl (by omega) (by decide) (Eq.refl 95) ?_
              refine Tr.iconst (v := nI 1) dX10_readSmall_95 (icN 1) (Eq.refl 96) ?_
              refine Tr.iret dX10_readSmall_96 rfl (by first | rfl | exact bI_nar _) ?_ ?_
              · rfl
              · rfl
            · rw [if_neg (by rw [h80]; decide)]
              refine Tr.iconst (v := nI 0) dX10_readSmall_83 (icN 0) (Eq.refl 84) ?_
              refine Tr.iret dX10_readSmall_84 rfl (by first | rfl | exact bI_nar _) ?_ ?_
              · rfl
              · rfl
        · rw [if_pos h53]
          refine Tr.aload_n (i := 0) dX10_readSmall_56 rfl rfl (Eq.refl 57) ?_
          refine Tr.iconst (v := nI 1) dX10_readSmall_57 (icN 1) (Eq.refl 58) ?_
          refine Tr.putf dX10_readSmall_58 pX10_149 rfl (rfl) (rfl) rfl (Eq.refl 61) ?_
          refine Tr.iconst (v := nI 1) dX10_readSmall_61 (icN 1) (Eq.refl 62) ?_
          refine Tr.iret dX10_readSmall_62 rfl (by first | rfl | exact bI_nar _) ?_ ?_
          · rfl
          · rfl
      · rw [if_pos (show bt z.2.2.2.2.1.2.1 c = true from decide_eq_true h25)]
        refine Tr.aload_n (i := 0) dX10_readSmall_28 rfl rfl (Eq.refl 29) ?_
        refine Tr.iconst (v := nI 3) dX10_readSmall_29 (icN 3) (Eq.refl 30) ?_
        refine Tr.callV (L := [0, 1]) (m_bad E _ (rR ad r) (iR z.2.2.2.1 z.2.2.2.2.1 i) len z.1 z.2.1 z.2.2.1 z.2.2.2.2.2.1 z.2.2.2.2.2.2 T 3) dX10_readSmall_30 (kX10_49 (Nat.le_of_ble_eq_true rfl)) iX10_bad rfl rfl rfl rfl rfl rfl rfl rfl rfl rfl (Eq.refl 33) ?_
        refine Tr.pic (w' := mrP E ad r i len T (badR T z 3)) (putB_eq (Lc := [2, 3, 4, 5, 6, 7, 8, 9, 10, 11]) 12 rfl rfl rfl rfl ⟨⟨_, rfl, rfl⟩, ⟨_, rfl, rfl⟩, ⟨_, rfl, rfl⟩, ⟨_, rfl, rfl⟩, ⟨_, rfl, rfl⟩, ⟨_, rfl, rfl⟩, ⟨_, rfl, rfl⟩, ⟨_, rfl, rfl⟩, ⟨_, rfl, rfl⟩, ⟨_, rfl, rfl⟩, trivial⟩ (by decide) rfl) ?_
        refine Tr.iret dX10_readSmall_33 rfl (by first | rfl | exact bI_nar _) ?_ ?_
        · rfl
        · rfl
    · exact absurd h7 (nI_nm1 (by omega))
  · rw [if_neg hc]
    rw [show rwI c = -1 from if_neg hc] at hW
    refine Md.of 1 (by decide) rfl rfl ?_
    refine Tr.aload_n (i := 0) dX10_readSmall_0 rfl rfl (Eq.refl 1) ?_
    refine Tr.callVs (hW) dX10_readSmall_1 (kX10_143 (Nat.le_of_ble_eq_true rfl)) iX10_wordAt rfl rfl rfl rfl rfl (mrP_le) rfl rfl (Eq.refl 4) ?_
    refine Tr.istore_n (i := 1) dX10_readSmall_4 rfl rfl rfl (Eq.refl 5) ?_
    refine Tr.iload_n (i := 1) dX10_readSmall_5 rfl rfl (Eq.refl 6) ?_
    refine Tr.iconst (v := (-1)) dX10_readSmall_6 (by decide +kernel) (Eq.refl 7) ?_
    refine Tr.icmp_ne (tgt := 16) dX10_readSmall_7 (by decide) (Eq.refl 10) (fun h7 => ?_) (fun h7 => ?_)
    · exact absurd rfl h7
    · refine Tr.aload_n (i := 0) dX10_readSmall_10 rfl rfl (Eq.refl 11) ?_
      refine Tr.iconst (v := nI 1) dX10_readSmall_11 (icN 1) (Eq.refl 12) ?_
      refine Tr.callV (L := [0, 1]) (m_bad E _ (rR ad r) (iR z.2.2.2.1 z.2.2.2.2.1 i) len z.1 z.2.1 z.2.2.1 z.2.2.2.2.2.1 z.2.2.2.2.2.2 T 1) dX10_readSmall_12 (kX10_49 (Nat.le_of_ble_eq_true rfl)) iX10_bad rfl rfl rfl rfl rfl rfl rfl rfl rfl rfl (Eq.refl 15) ?_
      refine Tr.pic (w' := mrP E ad r i len T (badR T z 1)) (putB_eq (Lc := [2, 3, 4, 5, 6, 7, 8, 9, 10, 11]) 12 rfl rfl rfl rfl ⟨⟨_, rfl, rfl⟩, ⟨_, rfl, rfl⟩, ⟨_, rfl, rfl⟩, ⟨_, rfl, rfl⟩, ⟨_, rfl, rfl⟩, ⟨_, rfl, rfl⟩, ⟨_, rfl, rfl⟩, ⟨_, rfl, rfl⟩, ⟨_, rfl, rfl⟩, ⟨_, rfl, rfl⟩, trivial⟩ (by decide) rfl) ?_
      refine Tr.iret dX10_readSmall_15 rfl (by first | rfl | exact bI_nar _) ?_ ?_
      · rfl
      · rfl
