/-! THE REFERENCE: feasts, beginnings -/
/-- the first so many turns behind which all are home -/
def feR (F : Nat → Nat) (n : Nat) : Nat → Nat → Nat
  | 0, t => t
  | k + 1, t => if ahR F n t then t else feR F n k (t + 1)
theorem feR_le (F : Nat → Nat) (n : Nat) : ∀ k t, feR F n k t ≤ t + k := by
  intro k
  induction k with
  | zero => intro t; exact Nat.le_refl t
  | succ k ih =>
    intro t
    unfold feR
    split
    · omega
    · have := ih (t + 1); omega
set_option maxHeartbeats 4000000 in
set_option maxRecDepth 100000 in
theorem m_feast_loop (E : EnvT) (ad r : Nat → Nat) (i : Nat → Int32) (np tp fn : Nat) (hb : Bool) (T F : Nat → Nat) (hf : fn ≤ 5) (hF : ∀ k, k < 5 → F k < 5) : ∀ (k t : Nat), t + k = 7 → (∃ s, t ≤ s ∧ s < 7 ∧ ahR F fn s = true) → Tr (E, mX10_feast, ad, some (.int (nI (feR F fn k t))), (mfC E ad r i np tp fn hb T F)) 0 0 114 [some (.ref (ad 0)), none, none, some (.int (nI t)), none] [] (mfC E ad r i np tp fn hb T F) := by
  intro k
  induction k with
  | zero => intro t h1 ⟨s, h2, h3, _⟩; omega
  | succ k ih =>
    intro t h1 hex
    have hu : feR F fn (k + 1) t = if ahR F fn t then t else feR F fn k (t + 1) := rfl
    rw [hu]
    clear hu
    refine Tr.aload_n (i := 0) dX10_feast_114 rfl rfl (Eq.refl 115) ?_
    refine Tr.iload_n (i := 3) dX10_feast_115 rfl rfl (Eq.refl 116) ?_
    refine Tr.callVs (m_allHome E ad r i np tp fn hb T F t hf hF (by omega)) dX10_feast_116 (kX10_466 (Nat.le_of_ble_eq_true rfl)) iX10_allHome rfl rfl rfl rfl rfl (mf_le) rfl rfl (Eq.refl 119) ?_
    refine Tr.if_neB (tgt := 128) dX10_feast_119 (by decide) (Eq.refl 122) (fun h119 => ?_) (fun h119 => ?_)
    · rw [if_pos h119]
      refine Tr.iload_n (i := 3) dX10_feast_128 rfl rfl (Eq.refl 129) ?_
      refine Tr.iret dX10_feast_129 rfl (by first | rfl | exact bI_nar _) ?_ ?_
      · rfl
      · rfl
    · rw [if_neg (by rw [h119]; decide)]
      refine Tr.iincN dX10_feast_122 rfl rfl rfl (Eq.refl 125) ?_
      refine Tr.goto (pc' := 114) dX10_feast_125 (by decide) ?_
      obtain ⟨s, g1, g2, g3⟩ := hex
      have hs9 : t + 1 ≤ s := by
        rcases Nat.lt_or_ge t s with g | g
        · exact g
        · rw [show s = t by omega, h119] at g3
          exact absurd g3 (by decide)
      exact Tr.eqs rfl rfl rfl (ih (t + 1) (by omega) ⟨s, hs9, g2, g3⟩)
set_option maxHeartbeats 4000000 in
set_option maxRecDepth 100000 in
theorem m_feast (E : EnvT) (ad r : Nat → Nat) (i : Nat → Int32) (np tp fn : Nat) (hb : Bool) (T F : Nat → Nat) (hp5 : np ≤ 5) (hl : tp ≤ 900) (hT : ∀ k, k < 900 → T k < 256) (hF : ∀ k, k < 5 → F k < 5) (hper : (ftB np tp T) = true → ∃ s, 1 ≤ s ∧ s < 7 ∧ ahR (frW T F np) np s = true) : Md E mX10_feast ad [.ref (ad 0)] (mfC E ad r i np tp fn hb T F) (some (.int (if (ftB np tp T) then nI (feR (frW T F np) np 6 1) else -1))) (mfC E ad r i np 0 (if (ftB np tp T) then np else fn) (if (ftB np tp T) then true else hb) T (if (ftB np tp T) then (frW T F np) else F)) := by
  by_cases he : tp = np
  · have hcx : (ftB np tp T) = (itB (ftS np T) (nI 0) np).1 := by unfold ftB; rw [decide_eq_true he, Bool.true_and]
    have hix := ft_ix (np := np) (T := T) (s0 := nI 0) np
    rw [hcx] at hper ⊢
    clear hcx
    generalize hR : (itB (ftS np T) (nI 0) np) = R at *
    refine Md.of 4 (by decide) rfl rfl ?_
    refine Tr.aload_n (i := 0) dX10_feast_0 rfl rfl (Eq.refl 1) ?_
    refine Tr.getf dX10_feast_1 fX10_71 rfl rfl (Eq.refl 4) ?_
    refine Tr.istore_n (i := 1) dX10_feast_4 rfl rfl rfl (Eq.refl 5) ?_
    refine Tr.aload_n (i := 0) dX10_feast_5 rfl rfl (Eq.refl 6) ?_
    refine Tr.iconst (v := nI 0) dX10_feast_6 (icN 0) (Eq.refl 7) ?_
    refine Tr.putf dX10_feast_7 pX10_71 rfl (rfl) (rfl) rfl (Eq.refl 10) ?_
    refine Tr.pic (w' := (mfC E ad r i np 0 fn hb T F)) rfl ?_
    refine Tr.iload_n (i := 1) dX10_feast_10 rfl rfl (Eq.refl 11) ?_
    refine Tr.aload_n (i := 0) dX10_feast_11 rfl rfl (Eq.refl 12) ?_
    refine Tr.getf dX10_feast_12 fX10_285 rfl rfl (Eq.refl 15) ?_
    refine Tr.icmp_eqN (tgt := 20) dX10_feast_15 (by decide) (Eq.refl 18) (by omega) (by omega) (fun h15 => ?_) (fun h15 => ?_)
    · refine Tr.iconst (v := nI 0) dX10_feast_20 (icN 0) (Eq.refl 21) ?_
      refine Tr.istore_n (i := 2) dX10_feast_21 rfl rfl rfl (Eq.refl 22) ?_
      refine Tr.iconst (v := nI 0) dX10_feast_22 (icN 0) (Eq.refl 23) ?_
      refine Tr.istore_n (i := 3) dX10_feast_23 rfl rfl rfl (Eq.refl 24) ?_
      skip
      refine Tr.mask [true, true, true, true, true] (lv' := [some (.ref (ad 0)), some (.int (nI tp)), some (.int (itB (ftS np T) (nI 0) 0).2), some (.int (nI 0)), none]) rfl ?_
      refine Tr.pic (w' := (mfC E ad r i np 0 fn hb T F)) rfl ?_
      refine loopD (P := fun j => (itB (ftS np T) (nI 0) j).1 = true → Tr _ 0 0 24 [some (.ref (ad 0)), some (.int (nI tp)), some (.int (itB (ftS np T) (nI 0) j).2), some (.int (nI j)), none] [] (mfC E ad r i np 0 fn hb T F)) np (fun hn9 => ?_) (fun j hj ih hn9 => ?_) rfl
      · rw [hR] at hn9
        rw [if_pos hn9, if_pos hn9, if_pos hn9, if_pos hn9]
        refine Tr.iload_n (i := 3) dX10_feast_24 rfl rfl (Eq.refl 25) ?_
        refine Tr.iload_n (i := 1) dX10_feast_25 rfl rfl (Eq.refl 26) ?_
        refine Tr.icmp_geN (tgt := 74) dX10_feast_26 (by decide) (Eq.refl 29) (by omega) (by omega) (fun h26 => ?_) (fun h26 => ?_)
        · refine Tr.iconst (v := nI 0) dX10_feast_74 (icN 0) (Eq.refl 75) ?_
          refine Tr.istore_n (i := 3) dX10_feast_75 rfl rfl rfl (Eq.refl 76) ?_
          skip
          refine Tr.mask [true, true, false, true, false] (lv' := [some (.ref (ad 0)), some (.int (nI tp)), none, some (.int (nI 0)), none]) rfl ?_
          refine Tr.pic (w' := (mfC E ad r i np 0 fn hb T (frW T F 0))) rfl ?_
          refine loopD (P := fun j => Tr _ 0 0 76 [some (.ref (ad 0)), some (.int (nI tp)), none, some (.int (nI j)), none] [] (mfC E ad r i np 0 fn hb T (frW T F j))) tp ?_ (fun j hj ih => ?_)
          · rw [he]
            have hF2 := frW_lt hp5 hF (hix hn9) np (Nat.le_refl _)
            have hL := m_feast_loop E ad r i np 0 np true T (frW T F np) hp5 hF2 6 1 rfl (hper hn9)
            generalize feR (frW T F np) np 6 1 = A9 at *
            generalize (frW T F np) = F2 at *
            refine Tr.iload_n (i := 3) dX10_feast_76 rfl rfl (Eq.refl 77) ?_
            refine Tr.iload_n (i := 1) dX10_feast_77 rfl rfl (Eq.refl 78) ?_
            refine Tr.icmp_geN (tgt := 102) dX10_feast_78 (by decide) (Eq.refl 81) (by omega) (by omega) (fun h78 => ?_) (fun h78 => ?_)
            · refine Tr.aload_n (i := 0) dX10_feast_102 rfl rfl (Eq.refl 103) ?_
              refine Tr.iload_n (i := 1) dX10_feast_103 rfl rfl (Eq.refl 104) ?_
              refine Tr.putf dX10_feast_104 pX10_463 rfl (rfl) (rfl) rfl (Eq.refl 107) ?_
              refine Tr.aload_n (i := 0) dX10_feast_107 rfl rfl (Eq.refl 108) ?_
              refine Tr.iconst (v := nI 1) dX10_feast_108 (icN 1) (Eq.refl 109) ?_
              refine Tr.putf dX10_feast_109 pX10_294 rfl (rfl) (rfl) rfl (Eq.refl 112) ?_
              refine Tr.iconst (v := nI 1) dX10_feast_112 (icN 1) (Eq.refl 113) ?_
              refine Tr.istore_n (i := 3) dX10_feast_113 rfl rfl rfl (Eq.refl 114) ?_
              exact Tr.mask [true, false, false, true, false] rfl (Tr.pic rfl hL)
            · exact absurd h78 (by omega)
          · obtain ⟨k, hk, hkx⟩ := ixB_n hp5 (hix hn9 j (by omega))
            have hsb : sb (T j) = nI (T j) := sb_e (hT j (by omega)) hp5 (hix hn9 j (by omega))
            have hu : frW T F (j + 1) = upN (frW T F j) j (nN (sgI T j)) := rfl
            rw [hu, hkx, nN_n (by omega)] at ih
            clear hu
            generalize frW T F j = F1 at *
            refine Tr.iload_n (i := 3) dX10_feast_76 rfl rfl (Eq.refl 77) ?_
            refine Tr.iload_n (i := 1) dX10_feast_77 rfl rfl (Eq.refl 78) ?_
            refine Tr.icmp_geN (tgt := 102) dX10_feast_78 (by decide) (Eq.refl 81) (by omega) (by omega) (fun h78 => ?_) (fun h78 => ?_)
            · exact absurd h78 (by omega)
            · refine Tr.aload_n (i := 0) dX10_feast_81 rfl rfl (Eq.refl 82) ?_
              refine Tr.getf dX10_feast_82 fX10_256 rfl rfl (Eq.refl 85) ?_
              refine Tr.iload_n (i := 3) dX10_feast_85 rfl rfl (Eq.refl 86) ?_
              refine Tr.aload_n (i := 0) dX10_feast_86 rfl rfl (Eq.refl 87) ?_
              refine Tr.getf dX10_feast_87 fX10_16 rfl rfl (Eq.refl 90) ?_
              refine Tr.iload_n (i := 3) dX10_feast_90 rfl rfl (Eq.refl 91) ?_
              refine Tr.baldN dX10_feast_91 rfl (by omega) (by decide) (Eq.refl 92) ?_
              rw [hsb]
              refine Tr.bipush (v := nI 48) dX10_feast_92 (by decide +kernel) (Eq.refl 94) ?_
              refine Tr.isub dX10_feast_94 (Eq.refl 95) ?_
              refine Tr.top (y := nI k) hkx ?_
              refine Tr.iastN dX10_feast_95 rfl (by omega) (by decide) (Eq.refl 96) ?_
              refine Tr.iincN dX10_feast_96 rfl rfl rfl (Eq.refl 99) ?_
              refine Tr.goto (pc' := 76) dX10_feast_99 (by decide) ?_
              exact Tr.eqs rfl rfl (by unfold mfC; rw [nI_upN]; rfl) ih
        · exact absurd h26 (by omega)
      · have hs := itB_s hn9
        have hf9 : (itB (ftS np T) (nI 0) (j + 1)).1 = false → R = (itB (ftS np T) (nI 0) (j + 1)) := fun z9 => by rw [← hR]; exact itB_fr (Nat.succ_le_of_lt hj) z9
        rw [hs] at ih hf9
        clear hs
        generalize (itB (ftS np T) (nI 0) j).2 = s at *
        have hu : ftS np T j s = if ixB (sgI T j) np && !bxI s (sgI T j) then (true, s ||| (nI 1 <<< (sgI T j &&& 31))) else (false, s) := rfl
        rw [hu] at ih hf9
        clear hu
        have hTj := hT j (by omega)
        have hsx : ixB (sb (T j) - nI 48) np = ixB (sgI T j) np := sb_ix hTj hp5
        refine Tr.iload_n (i := 3) dX10_feast_24 rfl rfl (Eq.refl 25) ?_
        refine Tr.iload_n (i := 1) dX10_feast_25 rfl rfl (Eq.refl 26) ?_
        refine Tr.icmp_geN (tgt := 74) dX10_feast_26 (by decide) (Eq.refl 29) (by omega) (by omega) (fun h26 => ?_) (fun h26 => ?_)
        · exact absurd h26 (by omega)
        · refine Tr.aload_n (i := 0) dX10_feast_29 rfl rfl (Eq.refl 30) ?_
          refine Tr.getf dX10_feast_30 fX10_16 rfl rfl (Eq.refl 33) ?_
          refine Tr.iload_n (i := 3) dX10_feast_33 rfl rfl (Eq.refl 34) ?_
          refine Tr.baldN dX10_feast_34 rfl (by omega) (by decide) (Eq.refl 35) ?_
          refine Tr.bipush (v := nI 48) dX10_feast_35 (by decide +kernel) (Eq.refl 37) ?_
          refine Tr.isub dX10_feast_37 (Eq.refl 38) ?_
          refine Tr.istore dX10_feast_38 rfl rfl (Eq.refl 40) ?_
          refine Tr.aload_n (i := 0) dX10_feast_40 rfl rfl (Eq.refl 41) ?_
          refine Tr.iload dX10_feast_41 rfl (Eq.refl 43) ?_
          refine Tr.callVs (mf_isPerson E ad r i np 0 fn hb T F (sb (T j) - nI 48) hp5) dX10_feast_43 (kX10_309 (Nat.le_of_ble_eq_true rfl)) iX10_isPerson rfl rfl rfl rfl rfl (mf_le) rfl rfl (Eq.refl 46) ?_
          rw [hsx]
          refine Tr.if_eqB (tgt := 59) dX10_feast_46 (by decide) (Eq.refl 49) (fun h46 => ?_) (fun h46 => ?_)
          · rw [if_neg (by rw [h46]; simp)] at hf9
            have hRf : R.1 = false := by rw [hf9 rfl]
            rw [if_neg (by rw [hRf]; decide), if_neg (by rw [hRf]; decide), if_neg (by rw [hRf]; decide), if_neg (by rw [hRf]; decide)]
            refine Tr.iconst (v := (-1)) dX10_feast_59 (by decide +kernel) (Eq.refl 60) ?_
            refine Tr.iret dX10_feast_60 rfl (by first | rfl | exact bI_nar _) ?_ ?_
            · rfl
            · rfl
          · have hsb : sb (T j) - nI 48 = sgI T j := by rw [sb_e hTj hp5 h46]; rfl
            rw [hsb]
            refine Tr.iload_n (i := 2) dX10_feast_49 rfl rfl (Eq.refl 50) ?_
            refine Tr.iload dX10_feast_50 rfl (Eq.refl 52) ?_
            refine Tr.ishr dX10_feast_52 (Eq.refl 53) ?_
            refine Tr.iconst (v := nI 1) dX10_feast_53 (icN 1) (Eq.refl 54) ?_
            refine Tr.iand dX10_feast_54 (Eq.refl 55) ?_
            refine Tr.iconst (v := nI 1) dX10_feast_55 (icN 1) (Eq.refl 56) ?_
            refine Tr.icmp_ne (tgt := 61) dX10_feast_56 (by decide) (Eq.refl 59) (fun h56 => ?_) (fun h56 => ?_)
            · have h56b : bxI s (sgI T j) = false := decide_eq_false h56
              rw [if_pos (by rw [h46, h56b]; rfl)] at ih
              refine Tr.iload_n (i := 2) dX10_feast_61 rfl rfl (Eq.refl 62) ?_
              refine Tr.iconst (v := nI 1) dX10_feast_62 (icN 1) (Eq.refl 63) ?_
              refine Tr.iload dX10_feast_63 rfl (Eq.refl 65) ?_
              refine Tr.ishl dX10_feast_65 (Eq.refl 66) ?_
              refine Tr.ior dX10_feast_66 (Eq.refl 67) ?_
              refine Tr.istore_n (i := 2) dX10_feast_67 rfl rfl rfl (Eq.refl 68) ?_
              refine Tr.iincN dX10_feast_68 rfl rfl rfl (Eq.refl 71) ?_
              refine Tr.goto (pc' := 24) dX10_feast_71 (by decide) ?_
              exact Tr.mask [true, true, true, true, false] rfl (ih rfl)
            · have h56b : bxI s (sgI T j) = true := decide_eq_true h56
              rw [if_neg (by rw [h46, h56b]; simp)] at hf9
              have hRf : R.1 = false := by rw [hf9 rfl]
              rw [if_neg (by rw [hRf]; decide), if_neg (by rw [hRf]; decide), if_neg (by rw [hRf]; decide), if_neg (by rw [hRf]; decide)]
              refine Tr.iconst (v := (-1)) dX10_feast_59 (by decide +kernel) (Eq.refl 60) ?_
              refine Tr.iret dX10_feast_60 rfl (by first | rfl | exact bI_nar _) ?_ ?_
              · rfl
              · rfl
    · exact absurd he h15
  · have hcx : (ftB np tp T) = false := by unfold ftB; rw [decide_eq_false he, Bool.false_and]
    rw [hcx, if_neg (by decide), if_neg (by decide), if_neg (by decide), if_neg (by decide)]
    refine Md.of 4 (by decide) rfl rfl ?_
    refine Tr.aload_n (i := 0) dX10_feast_0 rfl rfl (Eq.refl 1) ?_
    refine Tr.getf dX10_feast_1 fX10_71 rfl rfl (Eq.refl 4) ?_
    refine Tr.istore_n (i := 1) dX10_feast_4 rfl rfl rfl (Eq.refl 5) ?_
    refine Tr.aload_n (i := 0) dX10_feast_5 rfl rfl (Eq.refl 6) ?_
    refine Tr.iconst (v := nI 0) dX10_feast_6 (icN 0) (Eq.refl 7) ?_
    refine Tr.putf dX10_feast_7 pX10_71 rfl (rfl) (rfl) rfl (Eq.refl 10) ?_
    refine Tr.iload_n (i := 1) dX10_feast_10 rfl rfl (Eq.refl 11) ?_
    refine Tr.aload_n (i := 0) dX10_feast_11 rfl rfl (Eq.refl 12) ?_
    refine Tr.getf dX10_feast_12 fX10_285 rfl rfl (Eq.refl 15) ?_
    refine Tr.icmp_eqN (tgt := 20) dX10_feast_15 (by decide) (Eq.refl 18) (by omega) (by omega) (fun h15 => ?_) (fun h15 => ?_)
    · exact absurd h15 he
    · refine Tr.iconst (v := (-1)) dX10_feast_18 (by decide +kernel) (Eq.refl 19) ?_
      refine Tr.iret dX10_feast_19 rfl (by first | rfl | exact bI_nar _) ?_ ?_
      · rfl
      · rfl
set_option maxHeartbeats 4000000 in
set_option maxRecDepth 100000 in
theorem m_placed (E : EnvT) (ad : Nat → Nat) (c : Nat) (hc : c ≤ 5) : Md E mX10_placed ad [.int (cl c)] [] (some (.int (nI c))) [] := by
  refine Md.of 0 (by decide) rfl rfl ?_
  refine Tr.iload_n (i := 0) dX10_placed_0 rfl rfl (Eq.refl 1) ?_
  refine Tr.iconst (v := (-1)) dX10_placed_1 (by decide +kernel) (Eq.refl 2) ?_
  refine Tr.icmp_ne (tgt := 9) dX10_placed_2 (by decide) (Eq.refl 5) (fun h2 => ?_) (fun h2 => ?_)
  · rw [cl_none] at h2
    rw [cl_lt (show c < 5 by omega)]
    refine Tr.iload_n (i := 0) dX10_placed_9 rfl rfl (Eq.refl 10) ?_
    refine Tr.iret dX10_placed_10 rfl (by first | rfl | exact bI_nar _) ?_ ?_
    · rfl
    · rfl
  · rw [cl_none] at h2
    rw [show c = 5 by omega]
    refine Tr.iconst (v := nI 5) dX10_placed_5 (icN 5) (Eq.refl 6) ?_
    refine Tr.goto (pc' := 10) dX10_placed_6 (by decide) ?_
    refine Tr.iret dX10_placed_10 rfl (by first | rfl | exact bI_nar _) ?_ ?_
    · rfl
    · rfl
def mgO (ad r : Nat → Nat) (i : Nat → Int32) (nh np : Nat) : va_E := .inr (10, [.ref (r 0), .int (i 1), .int (i 2), .int (i 3), .int (i 4), .int (i 5), .int (i 6), .int (i 7), .int (i 8), .int (i 9), .int (nI nh), .int (nI np), .int (i 12), .int (i 13), .int (i 14), .int (i 15), .int (i 16), .int (i 17), .int (i 18), .ref (r 19), .ref (r 20), .ref (ad 1), .ref (r 22), .ref (ad 2), .ref (r 24), .ref (ad 3), .ref (r 26), .ref (r 27), .ref (r 28), .ref (r 29), .ref (r 30), .ref (r 31), .ref (r 32), .ref (r 33), .ref (r 34), .ref (r 35), .ref (r 36), .int (i 37), .ref (r 38), .ref (r 39), .int (i 40), .int (i 41), .int (i 42), .int (i 43), .int (i 44), .int (i 45), .ref (r 46), .ref (r 47), .ref (r 48), .ref (r 49), .ref (r 50), .ref (r 51), .int (i 52), .int (i 53), .ref (r 54), .int (i 55), .int (i 56), .ref (r 57), .ref (r 58), .ref (r 59), .int (i 60)])
def mgC (E : EnvT) (ad r : Nat → Nat) (i : Nat → Int32) (nh np : Nat) (so st : Nat → Int32) (ho : Nat → Nat) (f : Nat → Int32) : List va_E := [mgO ad r i nh np, aI E 5 so, aI E 5 st, aI E 5 (fun k => cl (ho k)), aI E 57 f]
/-- the beginning as the reference has it: the first so many houses, persons -/
def bhS (so st : Nat → Int32) (S : Scn) : Nat → Scn
  | 0 => S
  | h + 1 => (psS (bhS so st S h), whS (bhS so st S h), sdS (bhS so st S h), ltS (bhS so st S h), alS (bhS so st S h), upd (soS (bhS so st S h)) h (so h), upd (stS (bhS so st S h)) h (st h))
def z0S : Scn := (0, fun _ => 0, fun _ => 0, fun _ => 0, fun _ => 0, fun _ => 0, fun _ => 0)
def peB (P : Nat → Nat) (p c : Nat) : Nat → Nat → Nat
  | 0 => P
  | q + 1 => upN (peB P p c q) (p * 4 + q) c
def bpW (np : Nat) (ho W : Nat → Nat) : Nat → Nat → Nat
  | 0 => W
  | p + 1 => upN (bpW np ho W p) p (if p < np then ho p else 5)
def bpP (np : Nat) (ho P : Nat → Nat) : Nat → Nat → Nat
  | 0 => P
  | p + 1 => peB (bpP np ho P p) p (if p < np then ho p else 5) 4
def bpL (L : Nat → Int32) : Nat → Nat → Int32
  | 0 => L
  | p + 1 => upd (bpL L p) p (nI 31)
/-- the row at the beginning -/
def bgS (nh np : Nat) (so st : Nat → Int32) (ho : Nat → Nat) : Scn := (0, bpW np ho (fun _ => 0) 5, fun _ => 0, fun _ => 0, fun _ => 0, soS (bhS so st z0S nh), stS (bhS so st z0S nh))
theorem bhS_same (so st : Nat → Int32) : ∀ n, psS (bhS so st z0S n) = 0 ∧ whS (bhS so st z0S n) = (fun _ => 0) ∧ sdS (bhS so st z0S n) = (fun _ => 0) ∧ ltS (bhS so st z0S n) = (fun _ => 0) ∧ alS (bhS so st z0S n) = (fun _ => 0) := by
  intro n
  induction n with
  | zero => exact ⟨rfl, rfl, rfl, rfl, rfl⟩
  | succ n ih => exact ih
theorem row0 (a : Nat) : ∀ f : Nat → Int32, f 56 = nI a → ∀ k, k < 57 → pre (fun _ => nI 0) f 56 k = rwF z0S (fun _ => 0) (fun _ => 0) a k := by
  intro f hf k hk
  by_cases h : k < 56
  · rw [pre_n h]
    unfold rwF
    repeat' split
    all_goals first | rfl | omega
  · have e : k = 56 := by omega
    subst e
    exact hf
theorem mg_wh {E : EnvT} {ad r : Nat → Nat} {i : Nat → Int32} {nh np : Nat} {so st : Nat → Int32} {ho : Nat → Nat} {S : Scn} {P : Nat → Nat} {L : Nat → Int32} {a p x : Nat} (h : p < 5) : (mgC E ad r i nh np so st ho (rwF S P L a)).set 4 (aI E 57 (upd (rwF S P L a) (0 + p) (nI x))) = (mgC E ad r i nh np so st ho (rwF (psS S, upN (whS S) p x, sdS S, ltS S, alS S, soS S, stS S) P L a)) := congrArg (fun f9 => mgC E ad r i nh np so st ho f9) (wr_wh h)
theorem mg_le {E : EnvT} {ad r : Nat → Nat} {i : Nat → Int32} {nh np : Nat} {so st : Nat → Int32} {ho : Nat → Nat} {S : Scn} {P : Nat → Nat} {L : Nat → Int32} {a p : Nat} {x : Int32} (h : p < 5) : (mgC E ad r i nh np so st ho (rwF S P L a)).set 4 (aI E 57 (upd (rwF S P L a) (30 + p) x)) = (mgC E ad r i nh np so st ho (rwF S P (upd L p x) a)) := congrArg (fun f9 => mgC E ad r i nh np so st ho f9) (wr_le h)
theorem mg_pl {E : EnvT} {ad r : Nat → Nat} {i : Nat → Int32} {nh np : Nat} {so st : Nat → Int32} {ho : Nat → Nat} {S : Scn} {P : Nat → Nat} {L : Nat → Int32} {a p q x : Nat} (h : p * 4 + q < 20) : (mgC E ad r i nh np so st ho (rwF S P L a)).set 4 (aI E 57 (upd (rwF S P L a) (35 + 4 * p + q) (nI x))) = (mgC E ad r i nh np so st ho (rwF S (upN P (p * 4 + q) x) L a)) := congrArg (fun f9 => mgC E ad r i nh np so st ho f9) (wr_pl' h)
theorem mg_so {E : EnvT} {ad r : Nat → Nat} {i : Nat → Int32} {nh np : Nat} {so st : Nat → Int32} {ho : Nat → Nat} {S : Scn} {P : Nat → Nat} {L : Nat → Int32} {a p : Nat} {x : Int32} (h : p < 5) : (mgC E ad r i nh np so st ho (rwF S P L a)).set 4 (aI E 57 (upd (rwF S P L a) (20 + p) x)) = (mgC E ad r i nh np so st ho (rwF (psS S, whS S, sdS S, ltS S, alS S, upd (soS S) p x, stS S) P L a)) := congrArg (fun f9 => mgC E ad r i nh np so st ho f9) (wr_so h)
theorem mg_st {E : EnvT} {ad r : Nat → Nat} {i : Nat → Int32} {nh np : Nat} {so st : Nat → Int32} {ho : Nat → Nat} {S : Scn} {P : Nat → Nat} {L : Nat → Int32} {a p : Nat} {x : Int32} (h : p < 5) : (mgC E ad r i nh np so st ho (rwF S P L a)).set 4 (aI E 57 (upd (rwF S P L a) (25 + p) x)) = (mgC E ad r i nh np so st ho (rwF (psS S, whS S, sdS S, ltS S, alS S, soS S, upd (stS S) p x) P L a)) := congrArg (fun f9 => mgC E ad r i nh np so st ho f9) (wr_st h)
set_option maxHeartbeats 4000000 in
set_option maxRecDepth 100000 in
theorem m_begin (E : EnvT) (ad r : Nat → Nat) (i : Nat → Int32) (nh np : Nat) (so st : Nat → Int32) (ho : Nat → Nat) (f : Nat → Int32) (a : Nat) (hn : nh ≤ 5) (hp5 : np ≤ 5) (hh : ∀ p, p < np → ho p ≤ 5) (hf : f 56 = nI a) : Md E mX10_begin ad [.ref (ad 0), .ref (ad 4)] (mgC E ad r i nh np so st ho f) none (mgC E ad r i nh np so st ho (rwF (bgS nh np so st ho) (bpP np ho (fun _ => 0) 5) (bpL (fun _ => 0) 5) a)) := by
  obtain ⟨b1, b2, b3, b4, b5⟩ := bhS_same so st nh
  have hfin : bgS nh np so st ho = (psS (bhS so st z0S nh), bpW np ho (whS (bhS so st z0S nh)) 5, sdS (bhS so st z0S nh), ltS (bhS so st z0S nh), alS (bhS so st z0S nh), soS (bhS so st z0S nh), stS (bhS so st z0S nh)) := by
    unfold bgS
    rw [b1, b2, b3, b4, b5]
  rw [hfin]
  clear hfin b1 b2 b3 b4 b5
  refine Md.of 2 (by decide) rfl rfl ?_
  refine Tr.iconst (v := nI 0) dX10_begin_0 (icN 0) (Eq.refl 1) ?_
  refine Tr.istore_n (i := 2) dX10_begin_1 rfl rfl rfl (Eq.refl 2) ?_
  refine Tr.mask [true, true, true, true] (lv' := [some (.ref (ad 0)), some (.ref (ad 4)), some (.int (nI 0)), none]) rfl ?_
  refine Tr.pic (w' := mgC E ad r i nh np so st ho (pre (fun _ => nI 0) f 0)) (by exact congrArg (fun x => mgC E ad r i nh np so st ho x) (show f = pre (fun _ => nI 0) f 0 from funext fun k => (if_neg (Nat.not_lt_zero k)).symm)) ?_
  refine loopD (P := fun j => Tr _ 0 0 2 [some (.ref (ad 0)), some (.ref (ad 4)), some (.int (nI j)), none] [] (mgC E ad r i nh np so st ho (pre (fun _ => nI 0) f j))) 56 ?_ (fun j hj ih => ?_)
  · refine Tr.fn (q := 4) (rwF z0S (fun _ => 0) (fun _ => 0) a) rfl (row0 a f hf) ?_
    refine Tr.iload_n (i := 2) dX10_begin_2 rfl rfl (Eq.refl 3) ?_
    refine Tr.bipush (v := nI 56) dX10_begin_3 (by decide +kernel) (Eq.refl 5) ?_
    refine Tr.icmp_geN (tgt := 18) dX10_begin_5 (by decide) (Eq.refl 8) (by omega) (by omega) (fun h5 => ?_) (fun h5 => ?_)
    · refine Tr.iconst (v := nI 0) dX10_begin_18 (icN 0) (Eq.refl 19) ?_
      refine Tr.istore_n (i := 2) dX10_begin_19 rfl rfl rfl (Eq.refl 20) ?_
      skip
      refine Tr.mask [true, true, true, false] (lv' := [some (.ref (ad 0)), some (.ref (ad 4)), some (.int (nI 0)), none]) rfl ?_
      refine Tr.pic (w' := (mgC E ad r i nh np so st ho (rwF (bhS so st z0S 0) (fun _ => 0) (fun _ => 0) a))) rfl ?_
      refine loopD (P := fun h => Tr _ 0 0 20 [some (.ref (ad 0)), some (.ref (ad 4)), some (.int (nI h)), none] [] (mgC E ad r i nh np so st ho (rwF (bhS so st z0S h) (fun _ => 0) (fun _ => 0) a))) nh ?_ (fun h hh9 ih => ?_)
      · refine Tr.iload_n (i := 2) dX10_begin_20 rfl rfl (Eq.refl 21) ?_
        refine Tr.aload_n (i := 0) dX10_begin_21 rfl rfl (Eq.refl 22) ?_
        refine Tr.getf dX10_begin_22 fX10_282 rfl rfl (Eq.refl 25) ?_
        refine Tr.icmp_geN (tgt := 58) dX10_begin_25 (by decide) (Eq.refl 28) (by omega) (by omega) (fun h25 => ?_) (fun h25 => ?_)
        · refine Tr.iconst (v := nI 0) dX10_begin_58 (icN 0) (Eq.refl 59) ?_
          refine Tr.istore_n (i := 2) dX10_begin_59 rfl rfl rfl (Eq.refl 60) ?_
          skip
          refine Tr.mask [true, true, true, false] (lv' := [some (.ref (ad 0)), some (.ref (ad 4)), some (.int (nI 0)), none]) rfl ?_
          refine Tr.pic (w' := (mgC E ad r i nh np so st ho (rwF (psS (bhS so st z0S nh), bpW np ho (whS (bhS so st z0S nh)) 0, sdS (bhS so st z0S nh), ltS (bhS so st z0S nh), alS (bhS so st z0S nh), soS (bhS so st z0S nh), stS (bhS so st z0S nh)) (bpP np ho (fun _ => 0) 0) (bpL (fun _ => 0) 0) a))) rfl ?_
          refine loopD (P := fun p => Tr _ 0 0 60 [some (.ref (ad 0)), some (.ref (ad 4)), some (.int (nI p)), none] [] (mgC E ad r i nh np so st ho (rwF (psS (bhS so st z0S nh), bpW np ho (whS (bhS so st z0S nh)) p, sdS (bhS so st z0S nh), ltS (bhS so st z0S nh), alS (bhS so st z0S nh), soS (bhS so st z0S nh), stS (bhS so st z0S nh)) (bpP np ho (fun _ => 0) p) (bpL (fun _ => 0) p) a))) 5 ?_ (fun p hp ih => ?_)
          · refine Tr.iload_n (i := 2) dX10_begin_60 rfl rfl (Eq.refl 61) ?_
            refine Tr.iconst (v := nI 5) dX10_begin_61 (icN 5) (Eq.refl 62) ?_
            refine Tr.icmp_geN (tgt := 133) dX10_begin_62 (by decide) (Eq.refl 65) (by omega) (by omega) (fun h62 => ?_) (fun h62 => ?_)
            · refine Tr.ret dX10_begin_133 rfl rfl ?_
              · rfl
            · exact absurd h62 (by omega)
          · have hu1 : bpW np ho (whS (bhS so st z0S nh)) (p + 1) = upN (bpW np ho (whS (bhS so st z0S nh)) p) p (if p < np then ho p else 5) := rfl
            have hu2 : bpP np ho (fun _ => 0) (p + 1) = peB (bpP np ho (fun _ => 0) p) p (if p < np then ho p else 5) 4 := rfl
            have hu3 : bpL (fun _ => 0) (p + 1) = upd (bpL (fun _ => 0) p) p (nI 31) := rfl
            rw [hu1, hu2, hu3] at ih
            clear hu1 hu2 hu3
            generalize bpW np ho (whS (bhS so st z0S nh)) p = W1 at *
            generalize bpP np ho (fun _ => 0) p = P1 at *
            generalize bpL (fun _ => 0) p = L1 at *
            generalize (bhS so st z0S nh) = B1 at *
            obtain ⟨c9, hc9⟩ : ∃ c9, c9 = (if p < np then ho p else 5) := ⟨_, rfl⟩
            rw [← hc9] at ih
            refine Tr.iload_n (i := 2) dX10_begin_60 rfl rfl (Eq.refl 61) ?_
            refine Tr.iconst (v := nI 5) dX10_begin_61 (icN 5) (Eq.refl 62) ?_
            refine Tr.icmp_geN (tgt := 133) dX10_begin_62 (by decide) (Eq.refl 65) (by omega) (by omega) (fun h62 => ?_) (fun h62 => ?_)
            · exact absurd h62 (by omega)
            · refine Tr.aload_n (i := 1) dX10_begin_65 rfl rfl (Eq.refl 66) ?_
              refine Tr.iconst (v := nI 0) dX10_begin_66 (icN 0) (Eq.refl 67) ?_
              refine Tr.iload_n (i := 2) dX10_begin_67 rfl rfl (Eq.refl 68) ?_
              refine Tr.iaddN dX10_begin_68 (Eq.refl 69) ?_
              refine Tr.iload_n (i := 2) dX10_begin_69 rfl rfl (Eq.refl 70) ?_
              refine Tr.aload_n (i := 0) dX10_begin_70 rfl rfl (Eq.refl 71) ?_
              refine Tr.getf dX10_begin_71 fX10_285 rfl rfl (Eq.refl 74) ?_
              refine Tr.icmp_geN (tgt := 89) dX10_begin_74 (by decide) (Eq.refl 77) (by omega) (by omega) (fun h74 => ?_) (fun h74 => ?_)
              · rw [if_neg (by omega)] at hc9
                refine Tr.iconst (v := nI 5) dX10_begin_89 (icN 5) (Eq.refl 90) ?_
                refine Tr.top (y := nI c9) (by rw [hc9]) ?_
                refine Tr.iastN dX10_begin_90 rfl (by omega) (by decide) (Eq.refl 91) ?_
                refine Tr.pic (mg_wh (by omega)) ?_
                refine Tr.aload_n (i := 1) dX10_begin_91 rfl rfl (Eq.refl 92) ?_
                refine Tr.bipush (v := nI 30) dX10_begin_92 (by decide +kernel) (Eq.refl 94) ?_
                refine Tr.iload_n (i := 2) dX10_begin_94 rfl rfl (Eq.refl 95) ?_
                refine Tr.iaddN dX10_begin_95 (Eq.refl 96) ?_
                refine Tr.bipush (v := nI 31) dX10_begin_96 (by decide +kernel) (Eq.refl 98) ?_
                refine Tr.iastN dX10_begin_98 rfl (by omega) (by decide) (Eq.refl 99) ?_
                refine Tr.pic (mg_le (by omega)) ?_
                refine Tr.iconst (v := nI 0) dX10_begin_99 (icN 0) (Eq.refl 100) ?_
                refine Tr.istore_n (i := 3) dX10_begin_100 rfl rfl rfl (Eq.refl 101) ?_
                refine Tr.iload_n (i := 3) dX10_begin_101 rfl rfl (Eq.refl 102) ?_
                refine Tr.iconst (v := nI 4) dX10_begin_102 (icN 4) (Eq.refl 103) ?_
                refine Tr.icmp_geL (tgt := 127) dX10_begin_103 (by decide) (Eq.refl 106) (fun h => absurd h (by decide)) (fun _ => ?_)
                refine Tr.aload_n (i := 1) dX10_begin_106 rfl rfl (Eq.refl 107) ?_
                refine Tr.bipush (v := nI 35) dX10_begin_107 (by decide +kernel) (Eq.refl 109) ?_
                refine Tr.iconst (v := nI 4) dX10_begin_109 (icN 4) (Eq.refl 110) ?_
                refine Tr.iload_n (i := 2) dX10_begin_110 rfl rfl (Eq.refl 111) ?_
                refine Tr.imulN dX10_begin_111 (Eq.refl 112) ?_
                refine Tr.iaddN dX10_begin_112 (Eq.refl 113) ?_
                refine Tr.iload_n (i := 3) dX10_begin_113 rfl rfl (Eq.refl 114) ?_
                refine Tr.iaddN dX10_begin_114 (Eq.refl 115) ?_
                refine Tr.aload_n (i := 1) dX10_begin_115 rfl rfl (Eq.refl 116) ?_
                refine Tr.iconst (v := nI 0) dX10_begin_116 (icN 0) (Eq.refl 117) ?_
                refine Tr.iload_n (i := 2) dX10_begin_117 rfl rfl (Eq.refl 118) ?_
                refine Tr.iaddN dX10_begin_118 (Eq.refl 119) ?_
                refine Tr.ialdN dX10_begin_119 rfl (by omega) (by decide) (Eq.refl 120) ?_
                refine Tr.top (rd_wh (by omega)) ?_
                refine Tr.top (y := nI c9) (congrArg nI (upN_self _ _ _)) ?_
                refine Tr.iastN dX10_begin_120 rfl (by omega) (by decide) (Eq.refl 121) ?_
                refine Tr.pic (mg_pl (by omega)) ?_
                refine Tr.iinc (v := nI 1) dX10_begin_121 rfl (by decide +kernel) rfl rfl (Eq.refl 124) ?_
                refine Tr.goto (pc' := 101) dX10_begin_124 (by decide) ?_
                refine Tr.iload_n (i := 3) dX10_begin_101 rfl rfl (Eq.refl 102) ?_
                refine Tr.iconst (v := nI 4) dX10_begin_102 (icN 4) (Eq.refl 103) ?_
                refine Tr.icmp_geL (tgt := 127) dX10_begin_103 (by decide) (Eq.refl 106) (fun h => absurd h (by decide)) (fun _ => ?_)
                refine Tr.aload_n (i := 1) dX10_begin_106 rfl rfl (Eq.refl 107) ?_
                refine Tr.bipush (v := nI 35) dX10_begin_107 (by decide +kernel) (Eq.refl 109) ?_
                refine Tr.iconst (v := nI 4) dX10_begin_109 (icN 4) (Eq.refl 110) ?_
                refine Tr.iload_n (i := 2) dX10_begin_110 rfl rfl (Eq.refl 111) ?_
                refine Tr.imulN dX10_begin_111 (Eq.refl 112) ?_
                refine Tr.iaddN dX10_begin_112 (Eq.refl 113) ?_
                refine Tr.iload_n (i := 3) dX10_begin_113 rfl rfl (Eq.refl 114) ?_
                refine Tr.iaddN dX10_begin_114 (Eq.refl 115) ?_
                refine Tr.aload_n (i := 1) dX10_begin_115 rfl rfl (Eq.refl 116) ?_
                refine Tr.iconst (v := nI 0) dX10_begin_116 (icN 0) (Eq.refl 117) ?_
                refine Tr.iload_n (i := 2) dX10_begin_117 rfl rfl (Eq.refl 118) ?_
                refine Tr.iaddN dX10_begin_118 (Eq.refl 119) ?_
                refine Tr.ialdN dX10_begin_119 rfl (by omega) (by decide) (Eq.refl 120) ?_
                refine Tr.top (rd_wh (by omega)) ?_
                refine Tr.top (y := nI c9) (congrArg nI (upN_self _ _ _)) ?_
                refine Tr.iastN dX10_begin_120 rfl (by omega) (by decide) (Eq.refl 121) ?_
                refine Tr.pic (mg_pl (by omega)) ?_
                refine Tr.iinc (v := nI 2) dX10_begin_121 rfl (by decide +kernel) rfl rfl (Eq.refl 124) ?_
                refine Tr.goto (pc' := 101) dX10_begin_124 (by decide) ?_
                refine Tr.iload_n (i := 3) dX10_begin_101 rfl rfl (Eq.refl 102) ?_
                refine Tr.iconst (v := nI 4) dX10_begin_102 (icN 4) (Eq.refl 103) ?_
                refine Tr.icmp_geL (tgt := 127) dX10_begin_103 (by decide) (Eq.refl 106) (fun h => absurd h (by decide)) (fun _ => ?_)
                refine Tr.aload_n (i := 1) dX10_begin_106 rfl rfl (Eq.refl 107) ?_
                refine Tr.bipush (v := nI 35) dX10_begin_107 (by decide +kernel) (Eq.refl 109) ?_
                refine Tr.iconst (v := nI 4) dX10_begin_109 (icN 4) (Eq.refl 110) ?_
                refine Tr.iload_n (i := 2) dX10_begin_110 rfl rfl (Eq.refl 111) ?_
                refine Tr.imulN dX10_begin_111 (Eq.refl 112) ?_
                refine Tr.iaddN dX10_begin_112 (Eq.refl 113) ?_
                refine Tr.iload_n (i := 3) dX10_begin_113 rfl rfl (Eq.refl 114) ?_
                refine Tr.iaddN dX10_begin_114 (Eq.refl 115) ?_
                refine Tr.aload_n (i := 1) dX10_begin_115 rfl rfl (Eq.refl 116) ?_
                refine Tr.iconst (v := nI 0) dX10_begin_116 (icN 0) (Eq.refl 117) ?_
                refine Tr.iload_n (i := 2) dX10_begin_117 rfl rfl (Eq.refl 118) ?_
                refine Tr.iaddN dX10_begin_118 (Eq.refl 119) ?_
                refine Tr.ialdN dX10_begin_119 rfl (by omega) (by decide) (Eq.refl 120) ?_
                refine Tr.top (rd_wh (by omega)) ?_
                refine Tr.top (y := nI c9) (congrArg nI (upN_self _ _ _)) ?_
                refine Tr.iastN dX10_begin_120 rfl (by omega) (by decide) (Eq.refl 121) ?_
                refine Tr.pic (mg_pl (by omega)) ?_
                refine Tr.iinc (v := nI 3) dX10_begin_121 rfl (by decide +kernel) rfl rfl (Eq.refl 124) ?_
                refine Tr.goto (pc' := 101) dX10_begin_124 (by decide) ?_
                refine Tr.iload_n (i := 3) dX10_begin_101 rfl rfl (Eq.refl 102) ?_
                refine Tr.iconst (v := nI 4) dX10_begin_102 (icN 4) (Eq.refl 103) ?_
                refine Tr.icmp_geL (tgt := 127) dX10_begin_103 (by decide) (Eq.refl 106) (fun h => absurd h (by decide)) (fun _ => ?_)
                refine Tr.aload_n (i := 1) dX10_begin_106 rfl rfl (Eq.refl 107) ?_
                refine Tr.bipush (v := nI 35) dX10_begin_107 (by decide +kernel) (Eq.refl 109) ?_
                refine Tr.iconst (v := nI 4) dX10_begin_109 (icN 4) (Eq.refl 110) ?_
                refine Tr.iload_n (i := 2) dX10_begin_110 rfl rfl (Eq.refl 111) ?_
                refine Tr.imulN dX10_begin_111 (Eq.refl 112) ?_
                refine Tr.iaddN dX10_begin_112 (Eq.refl 113) ?_
                refine Tr.iload_n (i := 3) dX10_begin_113 rfl rfl (Eq.refl 114) ?_
                refine Tr.iaddN dX10_begin_114 (Eq.refl 115) ?_
                refine Tr.aload_n (i := 1) dX10_begin_115 rfl rfl (Eq.refl 116) ?_
                refine Tr.iconst (v := nI 0) dX10_begin_116 (icN 0) (Eq.refl 117) ?_
                refine Tr.iload_n (i := 2) dX10_begin_117 rfl rfl (Eq.refl 118) ?_
                refine Tr.iaddN dX10_begin_118 (Eq.refl 119) ?_
                refine Tr.ialdN dX10_begin_119 rfl (by omega) (by decide) (Eq.refl 120) ?_
                refine Tr.top (rd_wh (by omega)) ?_
                refine Tr.top (y := nI c9) (congrArg nI (upN_self _ _ _)) ?_
                refine Tr.iastN dX10_begin_120 rfl (by omega) (by decide) (Eq.refl 121) ?_
                refine Tr.pic (mg_pl (by omega)) ?_
                refine Tr.iinc (v := nI 4) dX10_begin_121 rfl (by decide +kernel) rfl rfl (Eq.refl 124) ?_
                refine Tr.goto (pc' := 101) dX10_begin_124 (by decide) ?_
                refine Tr.iload_n (i := 3) dX10_begin_101 rfl rfl (Eq.refl 102) ?_
                refine Tr.iconst (v := nI 4) dX10_begin_102 (icN 4) (Eq.refl 103) ?_
                refine Tr.icmp_geL (tgt := 127) dX10_begin_103 (by decide) (Eq.refl 106) (fun _ => ?_) (fun h => absurd h (by decide))
                refine Tr.iincN dX10_begin_127 rfl rfl rfl (Eq.refl 130) ?_
                refine Tr.goto (pc' := 60) dX10_begin_130 (by decide) ?_
                exact Tr.mask [true, true, true, false] rfl (Tr.pic rfl ih)
              · rw [if_pos (by omega)] at hc9
                have hhp := hh p (by omega)
                refine Tr.aload_n (i := 0) dX10_begin_77 rfl rfl (Eq.refl 78) ?_
                refine Tr.getf dX10_begin_78 fX10_212 rfl rfl (Eq.refl 81) ?_
                refine Tr.iload_n (i := 2) dX10_begin_81 rfl rfl (Eq.refl 82) ?_
                refine Tr.ialdN dX10_begin_82 rfl (by omega) (by decide) (Eq.refl 83) ?_
                refine Tr.callSr (L := []) (m_placed E _ (ho p) hhp) dX10_begin_83 (kX10_312 (Nat.le_of_ble_eq_true rfl)) sX10_placed rfl rfl rfl rfl rfl rfl rfl (Eq.refl 86) ?_
                refine Tr.goto (pc' := 90) dX10_begin_86 (by decide) ?_
                refine Tr.top (y := nI c9) (by rw [hc9]) ?_
                refine Tr.iastN dX10_begin_90 rfl (by omega) (by decide) (Eq.refl 91) ?_
                refine Tr.pic (mg_wh (by omega)) ?_
                refine Tr.aload_n (i := 1) dX10_begin_91 rfl rfl (Eq.refl 92) ?_
                refine Tr.bipush (v := nI 30) dX10_begin_92 (by decide +kernel) (Eq.refl 94) ?_
                refine Tr.iload_n (i := 2) dX10_begin_94 rfl rfl (Eq.refl 95) ?_
                refine Tr.iaddN dX10_begin_95 (Eq.refl 96) ?_
                refine Tr.bipush (v := nI 31) dX10_begin_96 (by decide +kernel) (Eq.refl 98) ?_
                refine Tr.iastN dX10_begin_98 rfl (by omega) (by decide) (Eq.refl 99) ?_
                refine Tr.pic (mg_le (by omega)) ?_
                refine Tr.iconst (v := nI 0) dX10_begin_99 (icN 0) (Eq.refl 100) ?_
                refine Tr.istore_n (i := 3) dX10_begin_100 rfl rfl rfl (Eq.refl 101) ?_
                refine Tr.iload_n (i := 3) dX10_begin_101 rfl rfl (Eq.refl 102) ?_
                refine Tr.iconst (v := nI 4) dX10_begin_102 (icN 4) (Eq.refl 103) ?_
                refine Tr.icmp_geL (tgt := 127) dX10_begin_103 (by decide) (Eq.refl 106) (fun h => absurd h (by decide)) (fun _ => ?_)
                refine Tr.aload_n (i := 1) dX10_begin_106 rfl rfl (Eq.refl 107) ?_
                refine Tr.bipush (v := nI 35) dX10_begin_107 (by decide +kernel) (Eq.refl 109) ?_
                refine Tr.iconst (v := nI 4) dX10_begin_109 (icN 4) (Eq.refl 110) ?_
                refine Tr.iload_n (i := 2) dX10_begin_110 rfl rfl (Eq.refl 111) ?_
                refine Tr.imulN dX10_begin_111 (Eq.refl 112) ?_
                refine Tr.iaddN dX10_begin_112 (Eq.refl 113) ?_
                refine Tr.iload_n (i := 3) dX10_begin_113 rfl rfl (Eq.refl 114) ?_
                refine Tr.iaddN dX10_begin_114 (Eq.refl 115) ?_
                refine Tr.aload_n (i := 1) dX10_begin_115 rfl rfl (Eq.refl 116) ?_
                refine Tr.iconst (v := nI 0) dX10_begin_116 (icN 0) (Eq.refl 117) ?_
                refine Tr.iload_n (i := 2) dX10_begin_117 rfl rfl (Eq.refl 118) ?_
                refine Tr.iaddN dX10_begin_118 (Eq.refl 119) ?_
                refine Tr.ialdN dX10_begin_119 rfl (by omega) (by decide) (Eq.refl 120) ?_
                refine Tr.top (rd_wh (by omega)) ?_
                refine Tr.top (y := nI c9) (congrArg nI (upN_self _ _ _)) ?_
                refine Tr.iastN dX10_begin_120 rfl (by omega) (by decide) (Eq.refl 121) ?_
                refine Tr.pic (mg_pl (by omega)) ?_
                refine Tr.iinc (v := nI 1) dX10_begin_121 rfl (by decide +kernel) rfl rfl (Eq.refl 124) ?_
                refine Tr.goto (pc' := 101) dX10_begin_124 (by decide) ?_
                refine Tr.iload_n (i := 3) dX10_begin_101 rfl rfl (Eq.refl 102) ?_
                refine Tr.iconst (v := nI 4) dX10_begin_102 (icN 4) (Eq.refl 103) ?_
                refine Tr.icmp_geL (tgt := 127) dX10_begin_103 (by decide) (Eq.refl 106) (fun h => absurd h (by decide)) (fun _ => ?_)
                refine Tr.aload_n (i := 1) dX10_begin_106 rfl rfl (Eq.refl 107) ?_
                refine Tr.bipush (v := nI 35) dX10_begin_107 (by decide +kernel) (Eq.refl 109) ?_
                refine Tr.iconst (v := nI 4) dX10_begin_109 (icN 4) (Eq.refl 110) ?_
                refine Tr.iload_n (i := 2) dX10_begin_110 rfl rfl (Eq.refl 111) ?_
                refine Tr.imulN dX10_begin_111 (Eq.refl 112) ?_
                refine Tr.iaddN dX10_begin_112 (Eq.refl 113) ?_
                refine Tr.iload_n (i := 3) dX10_begin_113 rfl rfl (Eq.refl 114) ?_
                refine Tr.iaddN dX10_begin_114 (Eq.refl 115) ?_
                refine Tr.aload_n (i := 1) dX10_begin_115 rfl rfl (Eq.refl 116) ?_
                refine Tr.iconst (v := nI 0) dX10_begin_116 (icN 0) (Eq.refl 117) ?_
                refine Tr.iload_n (i := 2) dX10_begin_117 rfl rfl (Eq.refl 118) ?_
                refine Tr.iaddN dX10_begin_118 (Eq.refl 119) ?_
                refine Tr.ialdN dX10_begin_119 rfl (by omega) (by decide) (Eq.refl 120) ?_
                refine Tr.top (rd_wh (by omega)) ?_
                refine Tr.top (y := nI c9) (congrArg nI (upN_self _ _ _)) ?_
                refine Tr.iastN dX10_begin_120 rfl (by omega) (by decide) (Eq.refl 121) ?_
                refine Tr.pic (mg_pl (by omega)) ?_
                refine Tr.iinc (v := nI 2) dX10_begin_121 rfl (by decide +kernel) rfl rfl (Eq.refl 124) ?_
                refine Tr.goto (pc' := 101) dX10_begin_124 (by decide) ?_
                refine Tr.iload_n (i := 3) dX10_begin_101 rfl rfl (Eq.refl 102) ?_
                refine Tr.iconst (v := nI 4) dX10_begin_102 (icN 4) (Eq.refl 103) ?_
                refine Tr.icmp_geL (tgt := 127) dX10_begin_103 (by decide) (Eq.refl 106) (fun h => absurd h (by decide)) (fun _ => ?_)
                refine Tr.aload_n (i := 1) dX10_begin_106 rfl rfl (Eq.refl 107) ?_
                refine Tr.bipush (v := nI 35) dX10_begin_107 (by decide +kernel) (Eq.refl 109) ?_
                refine Tr.iconst (v := nI 4) dX10_begin_109 (icN 4) (Eq.refl 110) ?_
                refine Tr.iload_n (i := 2) dX10_begin_110 rfl rfl (Eq.refl 111) ?_
                refine Tr.imulN dX10_begin_111 (Eq.refl 112) ?_
                refine Tr.iaddN dX10_begin_112 (Eq.refl 113) ?_
                refine Tr.iload_n (i := 3) dX10_begin_113 rfl rfl (Eq.refl 114) ?_
                refine Tr.iaddN dX10_begin_114 (Eq.refl 115) ?_
                refine Tr.aload_n (i := 1) dX10_begin_115 rfl rfl (Eq.refl 116) ?_
                refine Tr.iconst (v := nI 0) dX10_begin_116 (icN 0) (Eq.refl 117) ?_
                refine Tr.iload_n (i := 2) dX10_begin_117 rfl rfl (Eq.refl 118) ?_
                refine Tr.iaddN dX10_begin_118 (Eq.refl 119) ?_
                refine Tr.ialdN dX10_begin_119 rfl (by omega) (by decide) (Eq.refl 120) ?_
                refine Tr.top (rd_wh (by omega)) ?_
                refine Tr.top (y := nI c9) (congrArg nI (upN_self _ _ _)) ?_
                refine Tr.iastN dX10_begin_120 rfl (by omega) (by decide) (Eq.refl 121) ?_
                refine Tr.pic (mg_pl (by omega)) ?_
                refine Tr.iinc (v := nI 3) dX10_begin_121 rfl (by decide +kernel) rfl rfl (Eq.refl 124) ?_
                refine Tr.goto (pc' := 101) dX10_begin_124 (by decide) ?_
                refine Tr.iload_n (i := 3) dX10_begin_101 rfl rfl (Eq.refl 102) ?_
                refine Tr.iconst (v := nI 4) dX10_begin_102 (icN 4) (Eq.refl 103) ?_
                refine Tr.icmp_geL (tgt := 127) dX10_begin_103 (by decide) (Eq.refl 106) (fun h => absurd h (by decide)) (fun _ => ?_)
                refine Tr.aload_n (i := 1) dX10_begin_106 rfl rfl (Eq.refl 107) ?_
                refine Tr.bipush (v := nI 35) dX10_begin_107 (by decide +kernel) (Eq.refl 109) ?_
                refine Tr.iconst (v := nI 4) dX10_begin_109 (icN 4) (Eq.refl 110) ?_
                refine Tr.iload_n (i := 2) dX10_begin_110 rfl rfl (Eq.refl 111) ?_
                refine Tr.imulN dX10_begin_111 (Eq.refl 112) ?_
                refine Tr.iaddN dX10_begin_112 (Eq.refl 113) ?_
                refine Tr.iload_n (i := 3) dX10_begin_113 rfl rfl (Eq.refl 114) ?_
                refine Tr.iaddN dX10_begin_114 (Eq.refl 115) ?_
                refine Tr.aload_n (i := 1) dX10_begin_115 rfl rfl (Eq.refl 116) ?_
                refine Tr.iconst (v := nI 0) dX10_begin_116 (icN 0) (Eq.refl 117) ?_
                refine Tr.iload_n (i := 2) dX10_begin_117 rfl rfl (Eq.refl 118) ?_
                refine Tr.iaddN dX10_begin_118 (Eq.refl 119) ?_
                refine Tr.ialdN dX10_begin_119 rfl (by omega) (by decide) (Eq.refl 120) ?_
                refine Tr.top (rd_wh (by omega)) ?_
                refine Tr.top (y := nI c9) (congrArg nI (upN_self _ _ _)) ?_
                refine Tr.iastN dX10_begin_120 rfl (by omega) (by decide) (Eq.refl 121) ?_
                refine Tr.pic (mg_pl (by omega)) ?_
                refine Tr.iinc (v := nI 4) dX10_begin_121 rfl (by decide +kernel) rfl rfl (Eq.refl 124) ?_
                refine Tr.goto (pc' := 101) dX10_begin_124 (by decide) ?_
                refine Tr.iload_n (i := 3) dX10_begin_101 rfl rfl (Eq.refl 102) ?_
                refine Tr.iconst (v := nI 4) dX10_begin_102 (icN 4) (Eq.refl 103) ?_
                refine Tr.icmp_geL (tgt := 127) dX10_begin_103 (by decide) (Eq.refl 106) (fun _ => ?_) (fun h => absurd h (by decide))
                refine Tr.iincN dX10_begin_127 rfl rfl rfl (Eq.refl 130) ?_
                refine Tr.goto (pc' := 60) dX10_begin_130 (by decide) ?_
                exact Tr.mask [true, true, true, false] rfl (Tr.pic rfl ih)
        · exact absurd h25 (by omega)
      · refine Tr.iload_n (i := 2) dX10_begin_20 rfl rfl (Eq.refl 21) ?_
        refine Tr.aload_n (i := 0) dX10_begin_21 rfl rfl (Eq.refl 22) ?_
        refine Tr.getf dX10_begin_22 fX10_282 rfl rfl (Eq.refl 25) ?_
        refine Tr.icmp_geN (tgt := 58) dX10_begin_25 (by decide) (Eq.refl 28) (by omega) (by omega) (fun h25 => ?_) (fun h25 => ?_)
        · exact absurd h25 (by omega)
        · refine Tr.aload_n (i := 1) dX10_begin_28 rfl rfl (Eq.refl 29) ?_
          refine Tr.bipush (v := nI 20) dX10_begin_29 (by decide +kernel) (Eq.refl 31) ?_
          refine Tr.iload_n (i := 2) dX10_begin_31 rfl rfl (Eq.refl 32) ?_
          refine Tr.iaddN dX10_begin_32 (Eq.refl 33) ?_
          refine Tr.aload_n (i := 0) dX10_begin_33 rfl rfl (Eq.refl 34) ?_
          refine Tr.getf dX10_begin_34 fX10_200 rfl rfl (Eq.refl 37) ?_
          refine Tr.iload_n (i := 2) dX10_begin_37 rfl rfl (Eq.refl 38) ?_
          refine Tr.ialdN dX10_begin_38 rfl (by omega) (by decide) (Eq.refl 39) ?_
          refine Tr.iastN dX10_begin_39 rfl (by omega) (by decide) (Eq.refl 40) ?_
          refine Tr.pic (mg_so (by omega)) ?_
          refine Tr.aload_n (i := 1) dX10_begin_40 rfl rfl (Eq.refl 41) ?_
          refine Tr.bipush (v := nI 25) dX10_begin_41 (by decide +kernel) (Eq.refl 43) ?_
          refine Tr.iload_n (i := 2) dX10_begin_43 rfl rfl (Eq.refl 44) ?_
          refine Tr.iaddN dX10_begin_44 (Eq.refl 45) ?_
          refine Tr.aload_n (i := 0) dX10_begin_45 rfl rfl (Eq.refl 46) ?_
          refine Tr.getf dX10_begin_46 fX10_206 rfl rfl (Eq.refl 49) ?_
          refine Tr.iload_n (i := 2) dX10_begin_49 rfl rfl (Eq.refl 50) ?_
          refine Tr.ialdN dX10_begin_50 rfl (by omega) (by decide) (Eq.refl 51) ?_
          refine Tr.iastN dX10_begin_51 rfl (by omega) (by decide) (Eq.refl 52) ?_
          refine Tr.pic (mg_st (by omega)) ?_
          refine Tr.iincN dX10_begin_52 rfl rfl rfl (Eq.refl 55) ?_
          refine Tr.goto (pc' := 20) dX10_begin_55 (by decide) ?_
          exact Tr.eqs rfl rfl rfl ih
    · exact absurd h5 (by omega)
  · refine Tr.iload_n (i := 2) dX10_begin_2 rfl rfl (Eq.refl 3) ?_
    refine Tr.bipush (v := nI 56) dX10_begin_3 (by decide +kernel) (Eq.refl 5) ?_
    refine Tr.icmp_geN (tgt := 18) dX10_begin_5 (by decide) (Eq.refl 8) (by omega) (by omega) (fun h5 => ?_) (fun h5 => ?_)
    · exact absurd h5 (by omega)
    · refine Tr.aload_n (i := 1) dX10_begin_8 rfl rfl (Eq.refl 9) ?_
      refine Tr.iload_n (i := 2) dX10_begin_9 rfl rfl (Eq.refl 10) ?_
      refine Tr.iconst (v := nI 0) dX10_begin_10 (icN 0) (Eq.refl 11) ?_
      refine Tr.iastN dX10_begin_11 rfl (by omega) (by decide) (Eq.refl 12) ?_
      refine Tr.iincN dX10_begin_12 rfl rfl rfl (Eq.refl 15) ?_
      refine Tr.goto (pc' := 2) dX10_begin_15 (by decide) ?_
      exact Tr.eqs rfl rfl (by exact congrArg (fun x => mgC E ad r i nh np so st ho x) (pre_s (fun _ => nI 0) f j)) ih
