/-! TOKENS, as the class reads them -/
def tqC (E : EnvT) (ad : Nat → Nat) (len nx kd st nu nm : Nat) (T : Nat → Nat) : List va_E := tpC E ad 0 len (nI nx, nI kd, nI st, nI nu) (lN nm) T
theorem tq_le {E E2 : EnvT} {ad ad2 : Nat → Nat} {len nx kd st nu nm len2 nx2 kd2 st2 nu2 nm2 : Nat} {T T2 : Nat → Nat} : (tqC E ad len nx kd st nu nm T).length ≤ (tqC E2 ad2 len2 nx2 kd2 st2 nu2 nm2 T2).length := Nat.le_refl 2
def kdN (T : Nat → Nat) (len k : Nat) : Nat := if k < len then (if isSm (T k) then 1 else if isDg (T k) then 2 else if isBl (T k) then 4 else if T k = 59 then 3 else 5) else 0
theorem kdN_lt (T : Nat → Nat) (len k : Nat) : kdN T len k < 6 := by
  unfold kdN
  repeat' split
  all_goals omega
set_option maxHeartbeats 4000000 in
set_option maxRecDepth 100000 in
theorem t_kindAt (E : EnvT) (ad : Nat → Nat) (len nx kd st nu nm : Nat) (T : Nat → Nat) (k : Nat) (hl : len ≤ 900) (hT : ∀ k, k < 900 → T k < 256) (hk : k < 2 ^ 31) : Md E mX4_kindAt ad [.ref (ad 0), .int (nI k)] (tqC E ad len nx kd st nu nm T) (some (.int (nI (kdN T len k)))) (tqC E ad len nx kd st nu nm T) := by
  unfold kdN
  refine Md.of 1 (by decide) rfl rfl ?_
  refine Tr.iload_n (i := 1) dX4_kindAt_0 rfl rfl (Eq.refl 1) ?_
  refine Tr.if_lt (tgt := 19) dX4_kindAt_1 (by decide) (Eq.refl 4) (fun h1 => ?_) (fun h1 => ?_)
  · exact absurd h1 (nI_nneg hk)
  · refine Tr.iload_n (i := 1) dX4_kindAt_4 rfl rfl (Eq.refl 5) ?_
    refine Tr.aload_n (i := 0) dX4_kindAt_5 rfl rfl (Eq.refl 6) ?_
    refine Tr.getf dX4_kindAt_6 fX4_15 rfl rfl (Eq.refl 9) ?_
    refine Tr.icmp_geN (tgt := 19) dX4_kindAt_9 (by decide) (Eq.refl 12) (by omega) (by omega) (fun h9 => ?_) (fun h9 => ?_)
    · rw [if_neg (by omega)]
      refine Tr.iconst (v := nI 0) dX4_kindAt_19 (icN 0) (Eq.refl 20) ?_
      refine Tr.iret dX4_kindAt_20 rfl (by first | rfl | exact bI_nar _) ?_ ?_
      · rfl
      · rfl
    · have hTk := hT k (by omega)
      rw [if_pos (by omega)]
      refine Tr.iload_n (i := 1) dX4_kindAt_12 rfl rfl (Eq.refl 13) ?_
      refine Tr.sipush (v := nI 900) dX4_kindAt_13 (by decide +kernel) (Eq.refl 16) ?_
      refine Tr.icmp_ltN (tgt := 21) dX4_kindAt_16 (by decide) (Eq.refl 19) (by omega) (by omega) (fun h16 => ?_) (fun h16 => ?_)
      · refine Tr.aload_n (i := 0) dX4_kindAt_21 rfl rfl (Eq.refl 22) ?_
        refine Tr.getf dX4_kindAt_22 fX4_11 rfl rfl (Eq.refl 25) ?_
        refine Tr.iload_n (i := 1) dX4_kindAt_25 rfl rfl (Eq.refl 26) ?_
        refine Tr.ialdN dX4_kindAt_26 rfl (by omega) (by decide) (Eq.refl 27) ?_
        refine Tr.istore_n (i := 2) dX4_kindAt_27 rfl rfl rfl (Eq.refl 28) ?_
        refine Tr.iload_n (i := 2) dX4_kindAt_28 rfl rfl (Eq.refl 29) ?_
        refine Tr.bipush (v := nI 97) dX4_kindAt_29 (by decide +kernel) (Eq.refl 31) ?_
        refine Tr.icmp_ltN (tgt := 42) dX4_kindAt_31 (by decide) (Eq.refl 34) (by omega) (by omega) (fun h31 => ?_) (fun h31 => ?_)
        · have hsm : isSm (T k) = false := by unfold isSm; rw [decide_eq_false (by omega), Bool.false_and]
          skip
          rw [if_neg (by rw [hsm]; decide)]
          refine Tr.iload_n (i := 2) dX4_kindAt_42 rfl rfl (Eq.refl 43) ?_
          refine Tr.bipush (v := nI 48) dX4_kindAt_43 (by decide +kernel) (Eq.refl 45) ?_
          refine Tr.icmp_ltN (tgt := 56) dX4_kindAt_45 (by decide) (Eq.refl 48) (by omega) (by omega) (fun h45 => ?_) (fun h45 => ?_)
          · have hdg : isDg (T k) = false := by unfold isDg; rw [decide_eq_false (by omega), Bool.false_and]
            rw [if_neg (by rw [hdg]; decide)]
            refine Tr.iload_n (i := 2) dX4_kindAt_56 rfl rfl (Eq.refl 57) ?_
            refine Tr.bipush (v := nI 32) dX4_kindAt_57 (by decide +kernel) (Eq.refl 59) ?_
            refine Tr.icmp_eqN (tgt := 68) dX4_kindAt_59 (by decide) (Eq.refl 62) (by omega) (by omega) (fun h59 => ?_) (fun h59 => ?_)
            · rw [if_pos (show isBl (T k) = true from by unfold isBl; rw [decide_eq_true h59, Bool.true_or])]
              refine Tr.iconst (v := nI 4) dX4_kindAt_68 (icN 4) (Eq.refl 69) ?_
              refine Tr.iret dX4_kindAt_69 rfl (by first | rfl | exact bI_nar _) ?_ ?_
              · rfl
              · rfl
            · refine Tr.iload_n (i := 2) dX4_kindAt_62 rfl rfl (Eq.refl 63) ?_
              refine Tr.bipush (v := nI 10) dX4_kindAt_63 (by decide +kernel) (Eq.refl 65) ?_
              refine Tr.icmp_neN (tgt := 70) dX4_kindAt_65 (by decide) (Eq.refl 68) (by omega) (by omega) (fun h65 => ?_) (fun h65 => ?_)
              · rw [if_neg (show ¬ isBl (T k) = true from by unfold isBl; rw [decide_eq_false h59, decide_eq_false h65]; decide)]
                refine Tr.iload_n (i := 2) dX4_kindAt_70 rfl rfl (Eq.refl 71) ?_
                refine Tr.bipush (v := nI 59) dX4_kindAt_71 (by decide +kernel) (Eq.refl 73) ?_
                refine Tr.icmp_neN (tgt := 80) dX4_kindAt_73 (by decide) (Eq.refl 76) (by omega) (by omega) (fun h73 => ?_) (fun h73 => ?_)
                · rw [if_neg h73]
                  refine Tr.iconst (v := nI 5) dX4_kindAt_80 (icN 5) (Eq.refl 81) ?_
                  refine Tr.iret dX4_kindAt_81 rfl (by first | rfl | exact bI_nar _) ?_ ?_
                  · rfl
                  · rfl
                · rw [if_pos h73]
                  refine Tr.iconst (v := nI 3) dX4_kindAt_76 (icN 3) (Eq.refl 77) ?_
                  refine Tr.goto (pc' := 81) dX4_kindAt_77 (by decide) ?_
                  refine Tr.iret dX4_kindAt_81 rfl (by first | rfl | exact bI_nar _) ?_ ?_
                  · rfl
                  · rfl
              · rw [if_pos (show isBl (T k) = true from by unfold isBl; rw [decide_eq_true h65, Bool.or_true])]
                refine Tr.iconst (v := nI 4) dX4_kindAt_68 (icN 4) (Eq.refl 69) ?_
                refine Tr.iret dX4_kindAt_69 rfl (by first | rfl | exact bI_nar _) ?_ ?_
                · rfl
                · rfl
          · refine Tr.iload_n (i := 2) dX4_kindAt_48 rfl rfl (Eq.refl 49) ?_
            refine Tr.bipush (v := nI 57) dX4_kindAt_49 (by decide +kernel) (Eq.refl 51) ?_
            refine Tr.icmp_gtN (tgt := 56) dX4_kindAt_51 (by decide) (Eq.refl 54) (by omega) (by omega) (fun h51 => ?_) (fun h51 => ?_)
            · have hdg : isDg (T k) = false := by unfold isDg; rw [decide_eq_false (show ¬ T k ≤ 57 by omega), Bool.and_false]
              rw [if_neg (by rw [hdg]; decide)]
              refine Tr.iload_n (i := 2) dX4_kindAt_56 rfl rfl (Eq.refl 57) ?_
              refine Tr.bipush (v := nI 32) dX4_kindAt_57 (by decide +kernel) (Eq.refl 59) ?_
              refine Tr.icmp_eqN (tgt := 68) dX4_kindAt_59 (by decide) (Eq.refl 62) (by omega) (by omega) (fun h59 => ?_) (fun h59 => ?_)
              · rw [if_pos (show isBl (T k) = true from by unfold isBl; rw [decide_eq_true h59, Bool.true_or])]
                refine Tr.iconst (v := nI 4) dX4_kindAt_68 (icN 4) (Eq.refl 69) ?_
                refine Tr.iret dX4_kindAt_69 rfl (by first | rfl | exact bI_nar _) ?_ ?_
                · rfl
                · rfl
              · refine Tr.iload_n (i := 2) dX4_kindAt_62 rfl rfl (Eq.refl 63) ?_
                refine Tr.bipush (v := nI 10) dX4_kindAt_63 (by decide +kernel) (Eq.refl 65) ?_
                refine Tr.icmp_neN (tgt := 70) dX4_kindAt_65 (by decide) (Eq.refl 68) (by omega) (by omega) (fun h65 => ?_) (fun h65 => ?_)
                · rw [if_neg (show ¬ isBl (T k) = true from by unfold isBl; rw [decide_eq_false h59, decide_eq_false h65]; decide)]
                  refine Tr.iload_n (i := 2) dX4_kindAt_70 rfl rfl (Eq.refl 71) ?_
                  refine Tr.bipush (v := nI 59) dX4_kindAt_71 (by decide +kernel) (Eq.refl 73) ?_
                  refine Tr.icmp_neN (tgt := 80) dX4_kindAt_73 (by decide) (Eq.refl 76) (by omega) (by omega) (fun h73 => ?_) (fun h73 => ?_)
                  · rw [if_neg h73]
                    refine Tr.iconst (v := nI 5) dX4_kindAt_80 (icN 5) (Eq.refl 81) ?_
                    refine Tr.iret dX4_kindAt_81 rfl (by first | rfl | exact bI_nar _) ?_ ?_
                    · rfl
                    · rfl
                  · rw [if_pos h73]
                    refine Tr.iconst (v := nI 3) dX4_kindAt_76 (icN 3) (Eq.refl 77) ?_
                    refine Tr.goto (pc' := 81) dX4_kindAt_77 (by decide) ?_
                    refine Tr.iret dX4_kindAt_81 rfl (by first | rfl | exact bI_nar _) ?_ ?_
                    · rfl
                    · rfl
                · rw [if_pos (show isBl (T k) = true from by unfold isBl; rw [decide_eq_true h65, Bool.or_true])]
                  refine Tr.iconst (v := nI 4) dX4_kindAt_68 (icN 4) (Eq.refl 69) ?_
                  refine Tr.iret dX4_kindAt_69 rfl (by first | rfl | exact bI_nar _) ?_ ?_
                  · rfl
                  · rfl
            · rw [if_pos (show isDg (T k) = true from by unfold isDg; rw [decide_eq_true (show 48 ≤ T k by omega), decide_eq_true (show T k ≤ 57 by omega)]; rfl)]
              refine Tr.iconst (v := nI 2) dX4_kindAt_54 (icN 2) (Eq.refl 55) ?_
              refine Tr.iret dX4_kindAt_55 rfl (by first | rfl | exact bI_nar _) ?_ ?_
              · rfl
              · rfl
        · refine Tr.iload_n (i := 2) dX4_kindAt_34 rfl rfl (Eq.refl 35) ?_
          refine Tr.bipush (v := nI 122) dX4_kindAt_35 (by decide +kernel) (Eq.refl 37) ?_
          refine Tr.icmp_gtN (tgt := 42) dX4_kindAt_37 (by decide) (Eq.refl 40) (by omega) (by omega) (fun h37 => ?_) (fun h37 => ?_)
          · have hsm : isSm (T k) = false := by unfold isSm; rw [decide_eq_false (show ¬ T k ≤ 122 by omega), Bool.and_false]
            skip
            rw [if_neg (by rw [hsm]; decide)]
            refine Tr.iload_n (i := 2) dX4_kindAt_42 rfl rfl (Eq.refl 43) ?_
            refine Tr.bipush (v := nI 48) dX4_kindAt_43 (by decide +kernel) (Eq.refl 45) ?_
            refine Tr.icmp_ltN (tgt := 56) dX4_kindAt_45 (by decide) (Eq.refl 48) (by omega) (by omega) (fun h45 => ?_) (fun h45 => ?_)
            · have hdg : isDg (T k) = false := by unfold isDg; rw [decide_eq_false (by omega), Bool.false_and]
              rw [if_neg (by rw [hdg]; decide)]
              refine Tr.iload_n (i := 2) dX4_kindAt_56 rfl rfl (Eq.refl 57) ?_
              refine Tr.bipush (v := nI 32) dX4_kindAt_57 (by decide +kernel) (Eq.refl 59) ?_
              refine Tr.icmp_eqN (tgt := 68) dX4_kindAt_59 (by decide) (Eq.refl 62) (by omega) (by omega) (fun h59 => ?_) (fun h59 => ?_)
              · rw [if_pos (show isBl (T k) = true from by unfold isBl; rw [decide_eq_true h59, Bool.true_or])]
                refine Tr.iconst (v := nI 4) dX4_kindAt_68 (icN 4) (Eq.refl 69) ?_
                refine Tr.iret dX4_kindAt_69 rfl (by first | rfl | exact bI_nar _) ?_ ?_
                · rfl
                · rfl
              · refine Tr.iload_n (i := 2) dX4_kindAt_62 rfl rfl (Eq.refl 63) ?_
                refine Tr.bipush (v := nI 10) dX4_kindAt_63 (by decide +kernel) (Eq.refl 65) ?_
                refine Tr.icmp_neN (tgt := 70) dX4_kindAt_65 (by decide) (Eq.refl 68) (by omega) (by omega) (fun h65 => ?_) (fun h65 => ?_)
                · rw [if_neg (show ¬ isBl (T k) = true from by unfold isBl; rw [decide_eq_false h59, decide_eq_false h65]; decide)]
                  refine Tr.iload_n (i := 2) dX4_kindAt_70 rfl rfl (Eq.refl 71) ?_
                  refine Tr.bipush (v := nI 59) dX4_kindAt_71 (by decide +kernel) (Eq.refl 73) ?_
                  refine Tr.icmp_neN (tgt := 80) dX4_kindAt_73 (by decide) (Eq.refl 76) (by omega) (by omega) (fun h73 => ?_) (fun h73 => ?_)
                  · rw [if_neg h73]
                    refine Tr.iconst (v := nI 5) dX4_kindAt_80 (icN 5) (Eq.refl 81) ?_
                    refine Tr.iret dX4_kindAt_81 rfl (by first | rfl | exact bI_nar _) ?_ ?_
                    · rfl
                    · rfl
                  · rw [if_pos h73]
                    refine Tr.iconst (v := nI 3) dX4_kindAt_76 (icN 3) (Eq.refl 77) ?_
                    refine Tr.goto (pc' := 81) dX4_kindAt_77 (by decide) ?_
                    refine Tr.iret dX4_kindAt_81 rfl (by first | rfl | exact bI_nar _) ?_ ?_
                    · rfl
                    · rfl
                · rw [if_pos (show isBl (T k) = true from by unfold isBl; rw [decide_eq_true h65, Bool.or_true])]
                  refine Tr.iconst (v := nI 4) dX4_kindAt_68 (icN 4) (Eq.refl 69) ?_
                  refine Tr.iret dX4_kindAt_69 rfl (by first | rfl | exact bI_nar _) ?_ ?_
                  · rfl
                  · rfl
            · refine Tr.iload_n (i := 2) dX4_kindAt_48 rfl rfl (Eq.refl 49) ?_
              refine Tr.bipush (v := nI 57) dX4_kindAt_49 (by decide +kernel) (Eq.refl 51) ?_
              refine Tr.icmp_gtN (tgt := 56) dX4_kindAt_51 (by decide) (Eq.refl 54) (by omega) (by omega) (fun h51 => ?_) (fun h51 => ?_)
              · have hdg : isDg (T k) = false := by unfold isDg; rw [decide_eq_false (show ¬ T k ≤ 57 by omega), Bool.and_false]
                rw [if_neg (by rw [hdg]; decide)]
                refine Tr.iload_n (i := 2) dX4_kindAt_56 rfl rfl (Eq.refl 57) ?_
                refine Tr.bipush (v := nI 32) dX4_kindAt_57 (by decide +kernel) (Eq.refl 59) ?_
                refine Tr.icmp_eqN (tgt := 68) dX4_kindAt_59 (by decide) (Eq.refl 62) (by omega) (by omega) (fun h59 => ?_) (fun h59 => ?_)
                · rw [if_pos (show isBl (T k) = true from by unfold isBl; rw [decide_eq_true h59, Bool.true_or])]
                  refine Tr.iconst (v := nI 4) dX4_kindAt_68 (icN 4) (Eq.refl 69) ?_
                  refine Tr.iret dX4_kindAt_69 rfl (by first | rfl | exact bI_nar _) ?_ ?_
                  · rfl
                  · rfl
                · refine Tr.iload_n (i := 2) dX4_kindAt_62 rfl rfl (Eq.refl 63) ?_
                  refine Tr.bipush (v := nI 10) dX4_kindAt_63 (by decide +kernel) (Eq.refl 65) ?_
                  refine Tr.icmp_neN (tgt := 70) dX4_kindAt_65 (by decide) (Eq.refl 68) (by omega) (by omega) (fun h65 => ?_) (fun h65 => ?_)
                  · rw [if_neg (show ¬ isBl (T k) = true from by unfold isBl; rw [decide_eq_false h59, decide_eq_false h65]; decide)]
                    refine Tr.iload_n (i := 2) dX4_kindAt_70 rfl rfl (Eq.refl 71) ?_
                    refine Tr.bipush (v := nI 59) dX4_kindAt_71 (by decide +kernel) (Eq.refl 73) ?_
                    refine Tr.icmp_neN (tgt := 80) dX4_kindAt_73 (by decide) (Eq.refl 76) (by omega) (by omega) (fun h73 => ?_) (fun h73 => ?_)
                    · rw [if_neg h73]
                      refine Tr.iconst (v := nI 5) dX4_kindAt_80 (icN 5) (Eq.refl 81) ?_
                      refine Tr.iret dX4_kindAt_81 rfl (by first | rfl | exact bI_nar _) ?_ ?_
                      · rfl
                      · rfl
                    · rw [if_pos h73]
                      refine Tr.iconst (v := nI 3) dX4_kindAt_76 (icN 3) (Eq.refl 77) ?_
                      refine Tr.goto (pc' := 81) dX4_kindAt_77 (by decide) ?_
                      refine Tr.iret dX4_kindAt_81 rfl (by first | rfl | exact bI_nar _) ?_ ?_
                      · rfl
                      · rfl
                  · rw [if_pos (show isBl (T k) = true from by unfold isBl; rw [decide_eq_true h65, Bool.or_true])]
                    refine Tr.iconst (v := nI 4) dX4_kindAt_68 (icN 4) (Eq.refl 69) ?_
                    refine Tr.iret dX4_kindAt_69 rfl (by first | rfl | exact bI_nar _) ?_ ?_
                    · rfl
                    · rfl
              · rw [if_pos (show isDg (T k) = true from by unfold isDg; rw [decide_eq_true (show 48 ≤ T k by omega), decide_eq_true (show T k ≤ 57 by omega)]; rfl)]
                refine Tr.iconst (v := nI 2) dX4_kindAt_54 (icN 2) (Eq.refl 55) ?_
                refine Tr.iret dX4_kindAt_55 rfl (by first | rfl | exact bI_nar _) ?_ ?_
                · rfl
                · rfl
          · rw [if_pos (show isSm (T k) = true from by unfold isSm; rw [decide_eq_true (show 97 ≤ T k by omega), decide_eq_true (show T k ≤ 122 by omega)]; rfl)]
            refine Tr.iconst (v := nI 1) dX4_kindAt_40 (icN 1) (Eq.refl 41) ?_
            refine Tr.iret dX4_kindAt_41 rfl (by first | rfl | exact bI_nar _) ?_ ?_
            · rfl
            · rfl
      · exact absurd h16 (by omega)
/-- a name's letters, a number's digits, as numbers -/
def nmN (T : Nat → Nat) (s : Nat) : Nat → Nat
  | 0 => 0
  | j + 1 => nmN T s j * 32 + (T (s + j) - 96)
def nuN (T : Nat → Nat) (s : Nat) : Nat → Nat
  | 0 => 0
  | j + 1 => nuN T s j * 10 + (T (s + j) - 48)
theorem isSm_g {n : Nat} (h : isSm n = true) : 97 ≤ n ∧ n ≤ 122 := ⟨of_decide_eq_true (Bool.and_eq_true_iff.mp h).1, of_decide_eq_true (Bool.and_eq_true_iff.mp h).2⟩
theorem isDg_g {n : Nat} (h : isDg n = true) : 48 ≤ n ∧ n ≤ 57 := ⟨of_decide_eq_true (Bool.and_eq_true_iff.mp h).1, of_decide_eq_true (Bool.and_eq_true_iff.mp h).2⟩
theorem isDg_s {n : Nat} (h : isDg n = true) : isSm n = false := by
  have := isDg_g h
  unfold isSm
  rw [decide_eq_false (by omega), Bool.false_and]
theorem nmx_e {n : Nat} (h : isSm n = true) : (nI n - nI 97 + nI 1).toInt64 = lN (n - 96) := by
  have h1 := isSm_g h
  rw [pk_sub h1.1, nI_add, nI_l (by omega)]
  congr 1
  omega
theorem kd_sm {T : Nat → Nat} {len k : Nat} (h : k < len) : kdN T len k = 1 ↔ isSm (T k) = true := by
  unfold kdN
  rw [if_pos h]
  by_cases h1 : isSm (T k) = true
  · rw [if_pos h1]; exact ⟨fun _ => h1, fun _ => rfl⟩
  · rw [if_neg h1]
    refine ⟨fun z9 => ?_, fun z9 => absurd z9 h1⟩
    revert z9
    repeat' split
    all_goals intro z9; omega
theorem kd_dg {T : Nat → Nat} {len k : Nat} (h : k < len) : kdN T len k = 2 ↔ isDg (T k) = true := by
  unfold kdN
  rw [if_pos h]
  by_cases h1 : isSm (T k) = true
  · rw [if_pos h1]
    refine ⟨fun z9 => absurd z9 (by decide), fun z9 => ?_⟩
    rw [isDg_s z9] at h1
    exact absurd h1 (by decide)
  · rw [if_neg h1]
    by_cases h2 : isDg (T k) = true
    · rw [if_pos h2]; exact ⟨fun _ => h2, fun _ => rfl⟩
    · rw [if_neg h2]
      refine ⟨fun z9 => ?_, fun z9 => absurd z9 h2⟩
      revert z9
      repeat' split
      all_goals intro z9; omega
theorem Tr.topL {C : CtxT} {kb nb pc : Nat} {lv : List (Option Value)} {st : List Value} {w : List va_E} {x y : Int64} (h : x = y) (k : Tr C kb nb pc lv (.long y :: st) w) : Tr C kb nb pc lv (.long x :: st) w := by rw [h]; exact k
set_option maxHeartbeats 4000000 in
set_option maxRecDepth 100000 in
theorem t_run_sm (E : EnvT) (ad : Nat → Nat) (len st nu : Nat) (T : Nat → Nat) (w' : List va_E) (hl : len ≤ 900) (hT : ∀ k, k < 900 → T k < 256) : ∀ (n p : Nat), p + n = len → st ≤ p → (∀ p', p' = runF isSm T n p → Tr (E, mX4_readRun, ad, none, w') 0 0 95 [some (.ref (ad 0)), none] [] (tqC E ad len p' 1 st nu (nmN T st (p' - st)) T)) → Tr (E, mX4_readRun, ad, none, w') 0 0 0 [some (.ref (ad 0)), none] [] (tqC E ad len p 1 st nu (nmN T st (p - st)) T) := by
  intro n
  induction n with
  | zero =>
    intro p hp hst hk
    have hk2 := hk p rfl
    refine Tr.aload_n (i := 0) dX4_readRun_0 rfl rfl (Eq.refl 1) ?_
    refine Tr.getf dX4_readRun_1 fX4_19 rfl rfl (Eq.refl 4) ?_
    refine Tr.aload_n (i := 0) dX4_readRun_4 rfl rfl (Eq.refl 5) ?_
    refine Tr.getf dX4_readRun_5 fX4_15 rfl rfl (Eq.refl 8) ?_
    refine Tr.icmp_geN (tgt := 95) dX4_readRun_8 (by decide) (Eq.refl 11) (by omega) (by omega) (fun h8 => ?_) (fun h8 => ?_)
    · exact Tr.eqs rfl rfl rfl hk2
    · exact absurd h8 (by omega)
  | succ n ih =>
    intro p hp hst hk
    have hkl := kdN_lt T len p
    have hke := kd_sm (T := T) (show p < len by omega)
    have hb9 : byA len T p = nI (T p) := if_pos (by omega)
    have hu : runF isSm T (n + 1) p = if isSm (T p) then runF isSm T n (p + 1) else p := rfl
    rw [hu] at hk
    clear hu
    have hn9 : nmN T st (p + 1 - st) = nmN T st (p - st) * 32 + (T p - 96) := by
      rw [show p + 1 - st = (p - st) + 1 by omega]
      show nmN T st (p - st) * 32 + (T (st + (p - st)) - 96) = _
      rw [show st + (p - st) = p by omega]
    have hk9 : isSm (T p) = true → Tr (E, mX4_readRun, ad, none, w') 0 0 0 [some (.ref (ad 0)), none] [] (tqC E ad len (p + 1) 1 st nu (nmN T st (p + 1 - st)) T) := fun h => by
      rw [if_pos h] at hk
      exact ih (p + 1) (by omega) (by omega) hk
    rw [hn9] at hk9
    have hk0 : ¬ isSm (T p) = true → Tr (E, mX4_readRun, ad, none, w') 0 0 95 [some (.ref (ad 0)), none] [] (tqC E ad len p 1 st nu (nmN T st (p - st)) T) := fun h => by
      rw [if_neg h] at hk
      exact hk p rfl
    clear hk hn9
    generalize nmN T st (p - st) = nm at *
    refine Tr.aload_n (i := 0) dX4_readRun_0 rfl rfl (Eq.refl 1) ?_
    refine Tr.getf dX4_readRun_1 fX4_19 rfl rfl (Eq.refl 4) ?_
    refine Tr.aload_n (i := 0) dX4_readRun_4 rfl rfl (Eq.refl 5) ?_
    refine Tr.getf dX4_readRun_5 fX4_15 rfl rfl (Eq.refl 8) ?_
    refine Tr.icmp_geN (tgt := 95) dX4_readRun_8 (by decide) (Eq.refl 11) (by omega) (by omega) (fun h8 => ?_) (fun h8 => ?_)
    · exact absurd h8 (by omega)
    · refine Tr.aload_n (i := 0) dX4_readRun_11 rfl rfl (Eq.refl 12) ?_
      refine Tr.aload_n (i := 0) dX4_readRun_12 rfl rfl (Eq.refl 13) ?_
      refine Tr.getf dX4_readRun_13 fX4_19 rfl rfl (Eq.refl 16) ?_
      refine Tr.callVs (t_kindAt E ad len p 1 st nu nm T p hl hT (by omega)) dX4_readRun_16 (kX4_25 (Nat.le_of_ble_eq_true rfl)) iX4_kindAt rfl rfl rfl rfl rfl (tq_le) rfl rfl (Eq.refl 19) ?_
      refine Tr.aload_n (i := 0) dX4_readRun_19 rfl rfl (Eq.refl 20) ?_
      refine Tr.getf dX4_readRun_20 fX4_32 rfl rfl (Eq.refl 23) ?_
      refine Tr.icmp_neN (tgt := 95) dX4_readRun_23 (by decide) (Eq.refl 26) (by omega) (by omega) (fun h23 => ?_) (fun h23 => ?_)
      · have hk1 := hk0 (fun z9 => h23 (hke.mpr z9))
        exact Tr.eqs rfl rfl rfl hk1
      · have hsm := hke.mp h23
        have hk2 := hk9 hsm
        refine Tr.aload_n (i := 0) dX4_readRun_26 rfl rfl (Eq.refl 27) ?_
        refine Tr.aload_n (i := 0) dX4_readRun_27 rfl rfl (Eq.refl 28) ?_
        refine Tr.getf dX4_readRun_28 fX4_19 rfl rfl (Eq.refl 31) ?_
        refine Tr.callVs (t_byteAt E ad len (nI p, nI 1, nI st, nI nu) (lN nm) T p hl (by omega)) dX4_readRun_31 (kX4_45 (Nat.le_of_ble_eq_true rfl)) iX4_byteAt rfl rfl rfl rfl rfl (tq_le) rfl rfl (Eq.refl 34) ?_
        rw [hb9]
        refine Tr.istore_n (i := 1) dX4_readRun_34 rfl rfl rfl (Eq.refl 35) ?_
        refine Tr.aload_n (i := 0) dX4_readRun_35 rfl rfl (Eq.refl 36) ?_
        refine Tr.getf dX4_readRun_36 fX4_32 rfl rfl (Eq.refl 39) ?_
        refine Tr.iconst (v := nI 1) dX4_readRun_39 (icN 1) (Eq.refl 40) ?_
        refine Tr.icmp_neN (tgt := 66) dX4_readRun_40 (by decide) (Eq.refl 43) (by omega) (by omega) (fun h40 => ?_) (fun h40 => ?_)
        · exact absurd rfl h40
        · refine Tr.aload_n (i := 0) dX4_readRun_43 rfl rfl (Eq.refl 44) ?_
          refine Tr.aload_n (i := 0) dX4_readRun_44 rfl rfl (Eq.refl 45) ?_
          refine Tr.getf dX4_readRun_45 fX4_35 rfl rfl (Eq.refl 48) ?_
          refine Tr.ldc2 dX4_readRun_48 qX4_48 (Eq.refl 51) ?_
          refine Tr.lmul dX4_readRun_51 (Eq.refl 52) ?_
          refine Tr.topL (y := lN (nm * 32)) (lN_mul nm 32) ?_
          refine Tr.iload_n (i := 1) dX4_readRun_52 rfl rfl (Eq.refl 53) ?_
          refine Tr.bipush (v := nI 97) dX4_readRun_53 (by decide +kernel) (Eq.refl 55) ?_
          refine Tr.isub dX4_readRun_55 (Eq.refl 56) ?_
          refine Tr.iconst (v := nI 1) dX4_readRun_56 (icN 1) (Eq.refl 57) ?_
          refine Tr.iadd dX4_readRun_57 (Eq.refl 58) ?_
          refine Tr.i2l dX4_readRun_58 rfl (Eq.refl 59) ?_
          rw [nmx_e hsm]
          refine Tr.ladd dX4_readRun_59 (Eq.refl 60) ?_
          refine Tr.topL (y := lN (nm * 32 + (T p - 96))) (lN_add _ _) ?_
          refine Tr.putf dX4_readRun_60 pX4_35 rfl (rfl) (rfl) rfl (Eq.refl 63) ?_
          refine Tr.goto (pc' := 82) dX4_readRun_63 (by decide) ?_
          refine Tr.aload_n (i := 0) dX4_readRun_82 rfl rfl (Eq.refl 83) ?_
          refine Tr.dup dX4_readRun_83 rfl (Eq.refl 84) ?_
          refine Tr.getf dX4_readRun_84 fX4_19 rfl rfl (Eq.refl 87) ?_
          refine Tr.iconst (v := nI 1) dX4_readRun_87 (icN 1) (Eq.refl 88) ?_
          refine Tr.iaddN dX4_readRun_88 (Eq.refl 89) ?_
          refine Tr.putf dX4_readRun_89 pX4_19 rfl (rfl) (rfl) rfl (Eq.refl 92) ?_
          refine Tr.goto (pc' := 0) dX4_readRun_92 (by decide) ?_
          exact Tr.mask [true, false] rfl (Tr.pic rfl hk2)
set_option maxHeartbeats 4000000 in
set_option maxRecDepth 100000 in
theorem t_run_dg (E : EnvT) (ad : Nat → Nat) (len st nm : Nat) (T : Nat → Nat) (w' : List va_E) (hl : len ≤ 900) (hT : ∀ k, k < 900 → T k < 256) : ∀ (n p : Nat), p + n = len → st ≤ p → (∀ p', p' = runF isDg T n p → Tr (E, mX4_readRun, ad, none, w') 0 0 95 [some (.ref (ad 0)), none] [] (tqC E ad len p' 2 st (nuN T st (p' - st)) nm T)) → Tr (E, mX4_readRun, ad, none, w') 0 0 0 [some (.ref (ad 0)), none] [] (tqC E ad len p 2 st (nuN T st (p - st)) nm T) := by
  intro n
  induction n with
  | zero =>
    intro p hp hst hk
    have hk2 := hk p rfl
    refine Tr.aload_n (i := 0) dX4_readRun_0 rfl rfl (Eq.refl 1) ?_
    refine Tr.getf dX4_readRun_1 fX4_19 rfl rfl (Eq.refl 4) ?_
    refine Tr.aload_n (i := 0) dX4_readRun_4 rfl rfl (Eq.refl 5) ?_
    refine Tr.getf dX4_readRun_5 fX4_15 rfl rfl (Eq.refl 8) ?_
    refine Tr.icmp_geN (tgt := 95) dX4_readRun_8 (by decide) (Eq.refl 11) (by omega) (by omega) (fun h8 => ?_) (fun h8 => ?_)
    · exact Tr.eqs rfl rfl rfl hk2
    · exact absurd h8 (by omega)
  | succ n ih =>
    intro p hp hst hk
    have hkl := kdN_lt T len p
    have hke := kd_dg (T := T) (show p < len by omega)
    have hb9 : byA len T p = nI (T p) := if_pos (by omega)
    have hu : runF isDg T (n + 1) p = if isDg (T p) then runF isDg T n (p + 1) else p := rfl
    rw [hu] at hk
    clear hu
    have hn9 : nuN T st (p + 1 - st) = nuN T st (p - st) * 10 + (T p - 48) := by
      rw [show p + 1 - st = (p - st) + 1 by omega]
      show nuN T st (p - st) * 10 + (T (st + (p - st)) - 48) = _
      rw [show st + (p - st) = p by omega]
    have hk9 : isDg (T p) = true → Tr (E, mX4_readRun, ad, none, w') 0 0 0 [some (.ref (ad 0)), none] [] (tqC E ad len (p + 1) 2 st (nuN T st (p + 1 - st)) nm T) := fun h => by
      rw [if_pos h] at hk
      exact ih (p + 1) (by omega) (by omega) hk
    rw [hn9] at hk9
    have hk0 : ¬ isDg (T p) = true → Tr (E, mX4_readRun, ad, none, w') 0 0 95 [some (.ref (ad 0)), none] [] (tqC E ad len p 2 st (nuN T st (p - st)) nm T) := fun h => by
      rw [if_neg h] at hk
      exact hk p rfl
    clear hk hn9
    generalize nuN T st (p - st) = nu at *
    refine Tr.aload_n (i := 0) dX4_readRun_0 rfl rfl (Eq.refl 1) ?_
    refine Tr.getf dX4_readRun_1 fX4_19 rfl rfl (Eq.refl 4) ?_
    refine Tr.aload_n (i := 0) dX4_readRun_4 rfl rfl (Eq.refl 5) ?_
    refine Tr.getf dX4_readRun_5 fX4_15 rfl rfl (Eq.refl 8) ?_
    refine Tr.icmp_geN (tgt := 95) dX4_readRun_8 (by decide) (Eq.refl 11) (by omega) (by omega) (fun h8 => ?_) (fun h8 => ?_)
    · exact absurd h8 (by omega)
    · refine Tr.aload_n (i := 0) dX4_readRun_11 rfl rfl (Eq.refl 12) ?_
      refine Tr.aload_n (i := 0) dX4_readRun_12 rfl rfl (Eq.refl 13) ?_
      refine Tr.getf dX4_readRun_13 fX4_19 rfl rfl (Eq.refl 16) ?_
      refine Tr.callVs (t_kindAt E ad len p 2 st nu nm T p hl hT (by omega)) dX4_readRun_16 (kX4_25 (Nat.le_of_ble_eq_true rfl)) iX4_kindAt rfl rfl rfl rfl rfl (tq_le) rfl rfl (Eq.refl 19) ?_
      refine Tr.aload_n (i := 0) dX4_readRun_19 rfl rfl (Eq.refl 20) ?_
      refine Tr.getf dX4_readRun_20 fX4_32 rfl rfl (Eq.refl 23) ?_
      refine Tr.icmp_neN (tgt := 95) dX4_readRun_23 (by decide) (Eq.refl 26) (by omega) (by omega) (fun h23 => ?_) (fun h23 => ?_)
      · have hk1 := hk0 (fun z9 => h23 (hke.mpr z9))
        exact Tr.eqs rfl rfl rfl hk1
      · have hdg := hke.mp h23
        have hk2 := hk9 hdg
        refine Tr.aload_n (i := 0) dX4_readRun_26 rfl rfl (Eq.refl 27) ?_
        refine Tr.aload_n (i := 0) dX4_readRun_27 rfl rfl (Eq.refl 28) ?_
        refine Tr.getf dX4_readRun_28 fX4_19 rfl rfl (Eq.refl 31) ?_
        refine Tr.callVs (t_byteAt E ad len (nI p, nI 2, nI st, nI nu) (lN nm) T p hl (by omega)) dX4_readRun_31 (kX4_45 (Nat.le_of_ble_eq_true rfl)) iX4_byteAt rfl rfl rfl rfl rfl (tq_le) rfl rfl (Eq.refl 34) ?_
        rw [hb9]
        refine Tr.istore_n (i := 1) dX4_readRun_34 rfl rfl rfl (Eq.refl 35) ?_
        refine Tr.aload_n (i := 0) dX4_readRun_35 rfl rfl (Eq.refl 36) ?_
        refine Tr.getf dX4_readRun_36 fX4_32 rfl rfl (Eq.refl 39) ?_
        refine Tr.iconst (v := nI 1) dX4_readRun_39 (icN 1) (Eq.refl 40) ?_
        refine Tr.icmp_neN (tgt := 66) dX4_readRun_40 (by decide) (Eq.refl 43) (by omega) (by omega) (fun h40 => ?_) (fun h40 => ?_)
        · refine Tr.aload_n (i := 0) dX4_readRun_66 rfl rfl (Eq.refl 67) ?_
          refine Tr.aload_n (i := 0) dX4_readRun_67 rfl rfl (Eq.refl 68) ?_
          refine Tr.getf dX4_readRun_68 fX4_39 rfl rfl (Eq.refl 71) ?_
          refine Tr.bipush (v := nI 10) dX4_readRun_71 (by decide +kernel) (Eq.refl 73) ?_
          refine Tr.imulN dX4_readRun_73 (Eq.refl 74) ?_
          refine Tr.iload_n (i := 1) dX4_readRun_74 rfl rfl (Eq.refl 75) ?_
          refine Tr.bipush (v := nI 48) dX4_readRun_75 (by decide +kernel) (Eq.refl 77) ?_
          refine Tr.isub dX4_readRun_77 (Eq.refl 78) ?_
          rw [pk_sub (isDg_g hdg).1]
          refine Tr.iaddN dX4_readRun_78 (Eq.refl 79) ?_
          refine Tr.putf dX4_readRun_79 pX4_39 rfl (rfl) (rfl) rfl (Eq.refl 82) ?_
          refine Tr.aload_n (i := 0) dX4_readRun_82 rfl rfl (Eq.refl 83) ?_
          refine Tr.dup dX4_readRun_83 rfl (Eq.refl 84) ?_
          refine Tr.getf dX4_readRun_84 fX4_19 rfl rfl (Eq.refl 87) ?_
          refine Tr.iconst (v := nI 1) dX4_readRun_87 (icN 1) (Eq.refl 88) ?_
          refine Tr.iaddN dX4_readRun_88 (Eq.refl 89) ?_
          refine Tr.putf dX4_readRun_89 pX4_19 rfl (rfl) (rfl) rfl (Eq.refl 92) ?_
          refine Tr.goto (pc' := 0) dX4_readRun_92 (by decide) ?_
          exact Tr.mask [true, false] rfl (Tr.pic rfl hk2)
        · exact absurd h40 (by decide)
set_option maxHeartbeats 4000000 in
set_option maxRecDepth 100000 in
theorem t_readRun_sm (E : EnvT) (ad : Nat → Nat) (len st nu : Nat) (T : Nat → Nat) (hl : len ≤ 900) (hT : ∀ k, k < 900 → T k < 256) (hs : st ≤ len) : Md E mX4_readRun ad [.ref (ad 0)] (tqC E ad len st 1 st nu 0 T) none (tqC E ad len (runF isSm T (len - st) st) (if 8 < runF isSm T (len - st) st - st then 5 else 1) st nu (nmN T st (runF isSm T (len - st) st - st)) T) := by
  have hr := runF_le isSm T (len - st) st
  refine Md.of 1 (by decide) rfl rfl ?_
  show Tr _ 0 0 0 [some (.ref (ad 0)), none] [] _
  refine Tr.pic (w' := (tqC E ad len st 1 st nu (nmN T st (st - st)) T)) (by rw [Nat.sub_self]; rfl) ?_
  refine t_run_sm E ad len st nu T _ hl hT (len - st) st (by omega) (Nat.le_refl st) (fun e he => ?_)
  rw [← he] at hr ⊢
  clear he
  refine Tr.aload_n (i := 0) dX4_readRun_95 rfl rfl (Eq.refl 96) ?_
  refine Tr.getf dX4_readRun_96 fX4_19 rfl rfl (Eq.refl 99) ?_
  refine Tr.aload_n (i := 0) dX4_readRun_99 rfl rfl (Eq.refl 100) ?_
  refine Tr.getf dX4_readRun_100 fX4_29 rfl rfl (Eq.refl 103) ?_
  refine Tr.isub dX4_readRun_103 (Eq.refl 104) ?_
  rw [pk_sub (by omega)]
  refine Tr.aload_n (i := 0) dX4_readRun_104 rfl rfl (Eq.refl 105) ?_
  refine Tr.getf dX4_readRun_105 fX4_32 rfl rfl (Eq.refl 108) ?_
  refine Tr.iconst (v := nI 1) dX4_readRun_108 (icN 1) (Eq.refl 109) ?_
  refine Tr.icmp_neN (tgt := 117) dX4_readRun_109 (by decide) (Eq.refl 112) (by omega) (by omega) (fun h109 => ?_) (fun h109 => ?_)
  · exact absurd rfl h109
  · refine Tr.bipush (v := nI 8) dX4_readRun_112 (by decide +kernel) (Eq.refl 114) ?_
    refine Tr.goto (pc' := 118) dX4_readRun_114 (by decide) ?_
    refine Tr.icmp_leN (tgt := 126) dX4_readRun_118 (by decide) (Eq.refl 121) (by omega) (by omega) (fun h118 => ?_) (fun h118 => ?_)
    · rw [if_neg (by omega)]
      refine Tr.ret dX4_readRun_126 rfl rfl ?_
      · rfl
    · rw [if_pos (by omega)]
      refine Tr.aload_n (i := 0) dX4_readRun_121 rfl rfl (Eq.refl 122) ?_
      refine Tr.iconst (v := nI 5) dX4_readRun_122 (icN 5) (Eq.refl 123) ?_
      refine Tr.putf dX4_readRun_123 pX4_32 rfl (rfl) (rfl) rfl (Eq.refl 126) ?_
      refine Tr.ret dX4_readRun_126 rfl rfl ?_
      · rfl
set_option maxHeartbeats 4000000 in
set_option maxRecDepth 100000 in
theorem t_readRun_dg (E : EnvT) (ad : Nat → Nat) (len st nm : Nat) (T : Nat → Nat) (hl : len ≤ 900) (hT : ∀ k, k < 900 → T k < 256) (hs : st ≤ len) : Md E mX4_readRun ad [.ref (ad 0)] (tqC E ad len st 2 st 0 nm T) none (tqC E ad len (runF isDg T (len - st) st) (if 3 < runF isDg T (len - st) st - st then 5 else 2) st (nuN T st (runF isDg T (len - st) st - st)) nm T) := by
  have hr := runF_le isDg T (len - st) st
  refine Md.of 1 (by decide) rfl rfl ?_
  show Tr _ 0 0 0 [some (.ref (ad 0)), none] [] _
  refine Tr.pic (w' := (tqC E ad len st 2 st (nuN T st (st - st)) nm T)) (by rw [Nat.sub_self]; rfl) ?_
  refine t_run_dg E ad len st nm T _ hl hT (len - st) st (by omega) (Nat.le_refl st) (fun e he => ?_)
  rw [← he] at hr ⊢
  clear he
  refine Tr.aload_n (i := 0) dX4_readRun_95 rfl rfl (Eq.refl 96) ?_
  refine Tr.getf dX4_readRun_96 fX4_19 rfl rfl (Eq.refl 99) ?_
  refine Tr.aload_n (i := 0) dX4_readRun_99 rfl rfl (Eq.refl 100) ?_
  refine Tr.getf dX4_readRun_100 fX4_29 rfl rfl (Eq.refl 103) ?_
  refine Tr.isub dX4_readRun_103 (Eq.refl 104) ?_
  rw [pk_sub (by omega)]
  refine Tr.aload_n (i := 0) dX4_readRun_104 rfl rfl (Eq.refl 105) ?_
  refine Tr.getf dX4_readRun_105 fX4_32 rfl rfl (Eq.refl 108) ?_
  refine Tr.iconst (v := nI 1) dX4_readRun_108 (icN 1) (Eq.refl 109) ?_
  refine Tr.icmp_neN (tgt := 117) dX4_readRun_109 (by decide) (Eq.refl 112) (by omega) (by omega) (fun h109 => ?_) (fun h109 => ?_)
  · refine Tr.iconst (v := nI 3) dX4_readRun_117 (icN 3) (Eq.refl 118) ?_
    refine Tr.icmp_leN (tgt := 126) dX4_readRun_118 (by decide) (Eq.refl 121) (by omega) (by omega) (fun h118 => ?_) (fun h118 => ?_)
    · rw [if_neg (by omega)]
      refine Tr.ret dX4_readRun_126 rfl rfl ?_
      · rfl
    · rw [if_pos (by omega)]
      refine Tr.aload_n (i := 0) dX4_readRun_121 rfl rfl (Eq.refl 122) ?_
      refine Tr.iconst (v := nI 5) dX4_readRun_122 (icN 5) (Eq.refl 123) ?_
      refine Tr.putf dX4_readRun_123 pX4_32 rfl (rfl) (rfl) rfl (Eq.refl 126) ?_
      refine Tr.ret dX4_readRun_126 rfl rfl ?_
      · rfl
  · exact absurd h109 (by decide)
/-- the class's number and name behind a token -/
def tkN (T : Nat → Nat) (len p : Nat) : Nat := if tkS T len p < len ∧ isSm (T (tkS T len p)) = false ∧ isDg (T (tkS T len p)) = true then nuN T (tkS T len p) (tkE T len p - tkS T len p) else 0
def tkM (T : Nat → Nat) (len p : Nat) : Nat := if tkS T len p < len ∧ isSm (T (tkS T len p)) = true then nmN T (tkS T len p) (tkE T len p - tkS T len p) else 0
theorem runF_stop (g : Nat → Bool) (T : Nat → Nat) : ∀ n p, runF g T n p < p + n → g (T (runF g T n p)) = false := by
  intro n
  induction n with
  | zero => intro p h; exact absurd h (Nat.lt_irrefl _)
  | succ n ih =>
    intro p h
    by_cases h1 : g (T p) = true
    · have hu : runF g T (n + 1) p = runF g T n (p + 1) := if_pos h1
      rw [hu] at h ⊢
      exact ih (p + 1) (by omega)
    · have hu : runF g T (n + 1) p = p := if_neg h1
      rw [hu]
      exact bnt h1
theorem isBl_g {n : Nat} (h : isBl n = true) : isSm n = false ∧ isDg n = false := by
  unfold isBl at h
  have h1 : n = 32 ∨ n = 10 := by
    rcases Bool.or_eq_true_iff.mp h with h2 | h2
    · exact Or.inl (of_decide_eq_true h2)
    · exact Or.inr (of_decide_eq_true h2)
  rcases h1 with rfl | rfl <;> exact ⟨rfl, rfl⟩
theorem kd_bl {T : Nat → Nat} {len k : Nat} (h : k < len) : kdN T len k = 4 ↔ isBl (T k) = true := by
  unfold kdN
  rw [if_pos h]
  by_cases h1 : isBl (T k) = true
  · obtain ⟨h2, h3⟩ := isBl_g h1
    rw [if_neg (by rw [h2]; decide), if_neg (by rw [h3]; decide), if_pos h1]
    exact ⟨fun _ => h1, fun _ => rfl⟩
  · refine ⟨fun z9 => ?_, fun z9 => absurd z9 h1⟩
    revert z9
    repeat' split
    all_goals intro z9
    all_goals first | omega | (rename_i h9; exact h9)
set_option maxHeartbeats 4000000 in
set_option maxRecDepth 100000 in
theorem t_tok_bl (E : EnvT) (ad : Nat → Nat) (len kd st nu nm : Nat) (T : Nat → Nat) (w' : List va_E) (hl : len ≤ 900) (hT : ∀ k, k < 900 → T k < 256) : ∀ (n p : Nat), p + n = len → (∀ p', p' = runF isBl T n p → Tr (E, mX4_readToken, ad, none, w') 0 0 36 [some (.ref (ad 0))] [] (tqC E ad len p' kd st nu nm T)) → Tr (E, mX4_readToken, ad, none, w') 0 0 0 [some (.ref (ad 0))] [] (tqC E ad len p kd st nu nm T) := by
  intro n
  induction n with
  | zero =>
    intro p hp hk
    have hk2 := hk p rfl
    refine Tr.aload_n (i := 0) dX4_readToken_0 rfl rfl (Eq.refl 1) ?_
    refine Tr.getf dX4_readToken_1 fX4_19 rfl rfl (Eq.refl 4) ?_
    refine Tr.aload_n (i := 0) dX4_readToken_4 rfl rfl (Eq.refl 5) ?_
    refine Tr.getf dX4_readToken_5 fX4_15 rfl rfl (Eq.refl 8) ?_
    refine Tr.icmp_geN (tgt := 36) dX4_readToken_8 (by decide) (Eq.refl 11) (by omega) (by omega) (fun h8 => ?_) (fun h8 => ?_)
    · exact Tr.eqs rfl rfl rfl hk2
    · exact absurd h8 (by omega)
  | succ n ih =>
    intro p hp hk
    have hkl := kdN_lt T len p
    have hke : kdN T len p = 4 ↔ isBl (T p) = true := kd_bl (show p < len by omega)
    have hu : runF isBl T (n + 1) p = if isBl (T p) then runF isBl T n (p + 1) else p := rfl
    rw [hu] at hk
    clear hu
    refine Tr.aload_n (i := 0) dX4_readToken_0 rfl rfl (Eq.refl 1) ?_
    refine Tr.getf dX4_readToken_1 fX4_19 rfl rfl (Eq.refl 4) ?_
    refine Tr.aload_n (i := 0) dX4_readToken_4 rfl rfl (Eq.refl 5) ?_
    refine Tr.getf dX4_readToken_5 fX4_15 rfl rfl (Eq.refl 8) ?_
    refine Tr.icmp_geN (tgt := 36) dX4_readToken_8 (by decide) (Eq.refl 11) (by omega) (by omega) (fun h8 => ?_) (fun h8 => ?_)
    · exact absurd h8 (by omega)
    · refine Tr.aload_n (i := 0) dX4_readToken_11 rfl rfl (Eq.refl 12) ?_
      refine Tr.aload_n (i := 0) dX4_readToken_12 rfl rfl (Eq.refl 13) ?_
      refine Tr.getf dX4_readToken_13 fX4_19 rfl rfl (Eq.refl 16) ?_
      refine Tr.callVs (t_kindAt E ad len p kd st nu nm T p hl hT (by omega)) dX4_readToken_16 (kX4_25 (Nat.le_of_ble_eq_true rfl)) iX4_kindAt rfl rfl rfl rfl rfl (tq_le) rfl rfl (Eq.refl 19) ?_
      refine Tr.iconst (v := nI 4) dX4_readToken_19 (icN 4) (Eq.refl 20) ?_
      refine Tr.icmp_neN (tgt := 36) dX4_readToken_20 (by decide) (Eq.refl 23) (by omega) (by omega) (fun h20 => ?_) (fun h20 => ?_)
      · rw [if_neg (fun z9 => h20 (hke.mpr z9))] at hk
        exact Tr.eqs rfl rfl rfl (hk p rfl)
      · rw [if_pos (hke.mp h20)] at hk
        refine Tr.aload_n (i := 0) dX4_readToken_23 rfl rfl (Eq.refl 24) ?_
        refine Tr.dup dX4_readToken_24 rfl (Eq.refl 25) ?_
        refine Tr.getf dX4_readToken_25 fX4_19 rfl rfl (Eq.refl 28) ?_
        refine Tr.iconst (v := nI 1) dX4_readToken_28 (icN 1) (Eq.refl 29) ?_
        refine Tr.iaddN dX4_readToken_29 (Eq.refl 30) ?_
        refine Tr.putf dX4_readToken_30 pX4_19 rfl (rfl) (rfl) rfl (Eq.refl 33) ?_
        refine Tr.goto (pc' := 0) dX4_readToken_33 (by decide) ?_
        exact Tr.eqs rfl rfl rfl (ih (p + 1) (by omega) hk)
set_option maxHeartbeats 4000000 in
set_option maxRecDepth 100000 in
theorem t_readToken (E : EnvT) (ad : Nat → Nat) (len p kd st nu nm : Nat) (T : Nat → Nat) (hl : len ≤ 900) (hT : ∀ k, k < 900 → T k < 256) (hp : p ≤ len) : Md E mX4_readToken ad [.ref (ad 0)] (tqC E ad len p kd st nu nm T) none (tqC E ad len (tkE T len p) (tkK T len p) (tkS T len p) (tkN T len p) (tkM T len p) T) := by
  have hs := tkS_le T hp
  have hnb : tkS T len p < len → isBl (T (tkS T len p)) = false := fun h => runF_stop isBl T (len - p) p (by have h9 : runF isBl T (len - p) p < len := h; omega)
  refine Md.of 0 (by decide) rfl rfl ?_
  show Tr _ 0 0 0 [some (.ref (ad 0))] [] _
  refine t_tok_bl E ad len kd st nu nm T _ hl hT (len - p) p (by omega) (fun s hse => ?_)
  have hse : s = tkS T len p := hse
  have eE : tkE T len p = if s < len then (if isSm (T s) then runF isSm T (len - s) s else if isDg (T s) then runF isDg T (len - s) s else s + 1) else s := by rw [hse]; rfl
  have eK : tkK T len p = if s < len then (if isSm (T s) then (if 8 < tkE T len p - s then 5 else 1) else if isDg (T s) then (if 3 < tkE T len p - s then 5 else 2) else if T s = 59 then 3 else 5) else 0 := by rw [hse]; rfl
  have eN : tkN T len p = if s < len ∧ isSm (T s) = false ∧ isDg (T s) = true then nuN T s (tkE T len p - s) else 0 := by rw [hse]; rfl
  have eM : tkM T len p = if s < len ∧ isSm (T s) = true then nmN T s (tkE T len p - s) else 0 := by rw [hse]; rfl
  rw [← hse] at hs hnb ⊢
  clear hse
  generalize tkE T len p = e at *
  generalize tkK T len p = k at *
  generalize tkN T len p = v at *
  generalize tkM T len p = m at *
  have hkl := kdN_lt T len s
  have hkd : kdN T len s = if s < len then (if isSm (T s) then 1 else if isDg (T s) then 2 else if isBl (T s) then 4 else if T s = 59 then 3 else 5) else 0 := rfl
  by_cases h1 : s < len
  · rw [if_pos h1] at eE eK hkd
    have hbl := hnb h1
    by_cases h2 : isSm (T s) = true
    · rw [if_pos h2] at eE eK hkd
      rw [if_neg (by rw [h2]; simp)] at eN
      rw [if_pos ⟨h1, h2⟩] at eM
      have hRun := t_readRun_sm E ad len s 0 T hl hT (by omega)
      rw [← eE, ← eK, ← eM] at hRun
      rw [eN]
      refine Tr.aload_n (i := 0) dX4_readToken_36 rfl rfl (Eq.refl 37) ?_
      refine Tr.aload_n (i := 0) dX4_readToken_37 rfl rfl (Eq.refl 38) ?_
      refine Tr.getf dX4_readToken_38 fX4_19 rfl rfl (Eq.refl 41) ?_
      refine Tr.putf dX4_readToken_41 pX4_29 rfl (rfl) (rfl) rfl (Eq.refl 44) ?_
      refine Tr.pic (w' := (tqC E ad len s kd s nu nm T)) rfl ?_
      refine Tr.aload_n (i := 0) dX4_readToken_44 rfl rfl (Eq.refl 45) ?_
      refine Tr.aload_n (i := 0) dX4_readToken_45 rfl rfl (Eq.refl 46) ?_
      refine Tr.aload_n (i := 0) dX4_readToken_46 rfl rfl (Eq.refl 47) ?_
      refine Tr.getf dX4_readToken_47 fX4_29 rfl rfl (Eq.refl 50) ?_
      refine Tr.callVs (t_kindAt E ad len s kd s nu nm T s hl hT (by omega)) dX4_readToken_50 (kX4_25 (Nat.le_of_ble_eq_true rfl)) iX4_kindAt rfl rfl rfl rfl rfl (tq_le) rfl rfl (Eq.refl 53) ?_
      rw [hkd]
      refine Tr.putf dX4_readToken_53 pX4_32 rfl (rfl) (rfl) rfl (Eq.refl 56) ?_
      refine Tr.aload_n (i := 0) dX4_readToken_56 rfl rfl (Eq.refl 57) ?_
      refine Tr.lconst (v := 0) dX4_readToken_57 (by decide +kernel) (Eq.refl 58) ?_
      refine Tr.putf dX4_readToken_58 pX4_35 rfl (rfl) (rfl) rfl (Eq.refl 61) ?_
      refine Tr.aload_n (i := 0) dX4_readToken_61 rfl rfl (Eq.refl 62) ?_
      refine Tr.iconst (v := nI 0) dX4_readToken_62 (icN 0) (Eq.refl 63) ?_
      refine Tr.putf dX4_readToken_63 pX4_39 rfl (rfl) (rfl) rfl (Eq.refl 66) ?_
      refine Tr.pic (w' := (tqC E ad len s 1 s 0 0 T)) rfl ?_
      refine Tr.aload_n (i := 0) dX4_readToken_66 rfl rfl (Eq.refl 67) ?_
      refine Tr.getf dX4_readToken_67 fX4_32 rfl rfl (Eq.refl 70) ?_
      refine Tr.iconst (v := nI 1) dX4_readToken_70 (icN 1) (Eq.refl 71) ?_
      refine Tr.icmp_eqN (tgt := 82) dX4_readToken_71 (by decide) (Eq.refl 74) (by omega) (by omega) (fun h71 => ?_) (fun h71 => ?_)
      · refine Tr.aload_n (i := 0) dX4_readToken_82 rfl rfl (Eq.refl 83) ?_
        refine Tr.callVs (hRun) dX4_readToken_83 (kX4_42 (Nat.le_of_ble_eq_true rfl)) iX4_readRun rfl rfl rfl rfl rfl (tq_le) rfl rfl (Eq.refl 86) ?_
        refine Tr.goto (pc' := 106) dX4_readToken_86 (by decide) ?_
        refine Tr.ret dX4_readToken_106 rfl rfl ?_
        · rfl
      · exact absurd rfl h71
    · have h2 := bnt h2
      rw [if_neg (by rw [h2]; decide)] at eE eK hkd
      rw [if_neg (by rw [h2]; simp)] at eM
      by_cases h3 : isDg (T s) = true
      · rw [if_pos h3] at eE eK hkd
        rw [if_pos ⟨h1, h2, h3⟩] at eN
        have hRun := t_readRun_dg E ad len s 0 T hl hT (by omega)
        rw [← eE, ← eK, ← eN] at hRun
        rw [eM]
        refine Tr.aload_n (i := 0) dX4_readToken_36 rfl rfl (Eq.refl 37) ?_
        refine Tr.aload_n (i := 0) dX4_readToken_37 rfl rfl (Eq.refl 38) ?_
        refine Tr.getf dX4_readToken_38 fX4_19 rfl rfl (Eq.refl 41) ?_
        refine Tr.putf dX4_readToken_41 pX4_29 rfl (rfl) (rfl) rfl (Eq.refl 44) ?_
        refine Tr.pic (w' := (tqC E ad len s kd s nu nm T)) rfl ?_
        refine Tr.aload_n (i := 0) dX4_readToken_44 rfl rfl (Eq.refl 45) ?_
        refine Tr.aload_n (i := 0) dX4_readToken_45 rfl rfl (Eq.refl 46) ?_
        refine Tr.aload_n (i := 0) dX4_readToken_46 rfl rfl (Eq.refl 47) ?_
        refine Tr.getf dX4_readToken_47 fX4_29 rfl rfl (Eq.refl 50) ?_
        refine Tr.callVs (t_kindAt E ad len s kd s nu nm T s hl hT (by omega)) dX4_readToken_50 (kX4_25 (Nat.le_of_ble_eq_true rfl)) iX4_kindAt rfl rfl rfl rfl rfl (tq_le) rfl rfl (Eq.refl 53) ?_
        rw [hkd]
        refine Tr.putf dX4_readToken_53 pX4_32 rfl (rfl) (rfl) rfl (Eq.refl 56) ?_
        refine Tr.aload_n (i := 0) dX4_readToken_56 rfl rfl (Eq.refl 57) ?_
        refine Tr.lconst (v := 0) dX4_readToken_57 (by decide +kernel) (Eq.refl 58) ?_
        refine Tr.putf dX4_readToken_58 pX4_35 rfl (rfl) (rfl) rfl (Eq.refl 61) ?_
        refine Tr.aload_n (i := 0) dX4_readToken_61 rfl rfl (Eq.refl 62) ?_
        refine Tr.iconst (v := nI 0) dX4_readToken_62 (icN 0) (Eq.refl 63) ?_
        refine Tr.putf dX4_readToken_63 pX4_39 rfl (rfl) (rfl) rfl (Eq.refl 66) ?_
        refine Tr.pic (w' := (tqC E ad len s 2 s 0 0 T)) rfl ?_
        refine Tr.aload_n (i := 0) dX4_readToken_66 rfl rfl (Eq.refl 67) ?_
        refine Tr.getf dX4_readToken_67 fX4_32 rfl rfl (Eq.refl 70) ?_
        refine Tr.iconst (v := nI 1) dX4_readToken_70 (icN 1) (Eq.refl 71) ?_
        refine Tr.icmp_eqN (tgt := 82) dX4_readToken_71 (by decide) (Eq.refl 74) (by omega) (by omega) (fun h71 => ?_) (fun h71 => ?_)
        · exact absurd h71 (by decide)
        · refine Tr.aload_n (i := 0) dX4_readToken_74 rfl rfl (Eq.refl 75) ?_
          refine Tr.getf dX4_readToken_75 fX4_32 rfl rfl (Eq.refl 78) ?_
          refine Tr.iconst (v := nI 2) dX4_readToken_78 (icN 2) (Eq.refl 79) ?_
          refine Tr.icmp_neN (tgt := 89) dX4_readToken_79 (by decide) (Eq.refl 82) (by omega) (by omega) (fun h79 => ?_) (fun h79 => ?_)
          · exact absurd rfl h79
          · refine Tr.aload_n (i := 0) dX4_readToken_82 rfl rfl (Eq.refl 83) ?_
            refine Tr.callVs (hRun) dX4_readToken_83 (kX4_42 (Nat.le_of_ble_eq_true rfl)) iX4_readRun rfl rfl rfl rfl rfl (tq_le) rfl rfl (Eq.refl 86) ?_
            refine Tr.goto (pc' := 106) dX4_readToken_86 (by decide) ?_
            refine Tr.ret dX4_readToken_106 rfl rfl ?_
            · rfl
      · have h3 := bnt h3
        rw [if_neg (by rw [h3]; decide)] at eE eK hkd
        rw [if_neg (by rw [hbl]; decide)] at hkd
        rw [if_neg (by rw [h3]; simp)] at eN
        have hk35 : k = 3 ∨ k = 5 := by rw [eK]; split <;> simp
        have hkd : kdN T len s = k := hkd.trans eK.symm
        rw [eN, eM, eE]
        clear eK eE eN eM
        refine Tr.aload_n (i := 0) dX4_readToken_36 rfl rfl (Eq.refl 37) ?_
        refine Tr.aload_n (i := 0) dX4_readToken_37 rfl rfl (Eq.refl 38) ?_
        refine Tr.getf dX4_readToken_38 fX4_19 rfl rfl (Eq.refl 41) ?_
        refine Tr.putf dX4_readToken_41 pX4_29 rfl (rfl) (rfl) rfl (Eq.refl 44) ?_
        refine Tr.pic (w' := (tqC E ad len s kd s nu nm T)) rfl ?_
        refine Tr.aload_n (i := 0) dX4_readToken_44 rfl rfl (Eq.refl 45) ?_
        refine Tr.aload_n (i := 0) dX4_readToken_45 rfl rfl (Eq.refl 46) ?_
        refine Tr.aload_n (i := 0) dX4_readToken_46 rfl rfl (Eq.refl 47) ?_
        refine Tr.getf dX4_readToken_47 fX4_29 rfl rfl (Eq.refl 50) ?_
        refine Tr.callVs (t_kindAt E ad len s kd s nu nm T s hl hT (by omega)) dX4_readToken_50 (kX4_25 (Nat.le_of_ble_eq_true rfl)) iX4_kindAt rfl rfl rfl rfl rfl (tq_le) rfl rfl (Eq.refl 53) ?_
        rw [hkd]
        refine Tr.putf dX4_readToken_53 pX4_32 rfl (rfl) (rfl) rfl (Eq.refl 56) ?_
        refine Tr.aload_n (i := 0) dX4_readToken_56 rfl rfl (Eq.refl 57) ?_
        refine Tr.lconst (v := 0) dX4_readToken_57 (by decide +kernel) (Eq.refl 58) ?_
        refine Tr.putf dX4_readToken_58 pX4_35 rfl (rfl) (rfl) rfl (Eq.refl 61) ?_
        refine Tr.aload_n (i := 0) dX4_readToken_61 rfl rfl (Eq.refl 62) ?_
        refine Tr.iconst (v := nI 0) dX4_readToken_62 (icN 0) (Eq.refl 63) ?_
        refine Tr.putf dX4_readToken_63 pX4_39 rfl (rfl) (rfl) rfl (Eq.refl 66) ?_
        refine Tr.pic (w' := (tqC E ad len s k s 0 0 T)) rfl ?_
        refine Tr.aload_n (i := 0) dX4_readToken_66 rfl rfl (Eq.refl 67) ?_
        refine Tr.getf dX4_readToken_67 fX4_32 rfl rfl (Eq.refl 70) ?_
        refine Tr.iconst (v := nI 1) dX4_readToken_70 (icN 1) (Eq.refl 71) ?_
        refine Tr.icmp_eqN (tgt := 82) dX4_readToken_71 (by decide) (Eq.refl 74) (by omega) (by omega) (fun h71 => ?_) (fun h71 => ?_)
        · exact absurd h71 (by omega)
        · refine Tr.aload_n (i := 0) dX4_readToken_74 rfl rfl (Eq.refl 75) ?_
          refine Tr.getf dX4_readToken_75 fX4_32 rfl rfl (Eq.refl 78) ?_
          refine Tr.iconst (v := nI 2) dX4_readToken_78 (icN 2) (Eq.refl 79) ?_
          refine Tr.icmp_neN (tgt := 89) dX4_readToken_79 (by decide) (Eq.refl 82) (by omega) (by omega) (fun h79 => ?_) (fun h79 => ?_)
          · refine Tr.aload_n (i := 0) dX4_readToken_89 rfl rfl (Eq.refl 90) ?_
            refine Tr.getf dX4_readToken_90 fX4_32 rfl rfl (Eq.refl 93) ?_
            refine Tr.if_eq (tgt := 106) dX4_readToken_93 (by decide) (Eq.refl 96) (fun h93 => ?_) (fun h93 => ?_)
            · exact absurd ((nI_eq_iff (b := 0) (by omega) (by decide)).mp h93) (by omega)
            · refine Tr.aload_n (i := 0) dX4_readToken_96 rfl rfl (Eq.refl 97) ?_
              refine Tr.dup dX4_readToken_97 rfl (Eq.refl 98) ?_
              refine Tr.getf dX4_readToken_98 fX4_19 rfl rfl (Eq.refl 101) ?_
              refine Tr.iconst (v := nI 1) dX4_readToken_101 (icN 1) (Eq.refl 102) ?_
              refine Tr.iaddN dX4_readToken_102 (Eq.refl 103) ?_
              refine Tr.putf dX4_readToken_103 pX4_19 rfl (rfl) (rfl) rfl (Eq.refl 106) ?_
              refine Tr.ret dX4_readToken_106 rfl rfl ?_
              · rfl
          · exact absurd h79 (by omega)
  · rw [if_neg h1] at eE eK hkd
    rw [if_neg (fun z9 => h1 z9.1)] at eN eM
    rw [eN, eM, eE, eK]
    clear eK eE eN eM
    refine Tr.aload_n (i := 0) dX4_readToken_36 rfl rfl (Eq.refl 37) ?_
    refine Tr.aload_n (i := 0) dX4_readToken_37 rfl rfl (Eq.refl 38) ?_
    refine Tr.getf dX4_readToken_38 fX4_19 rfl rfl (Eq.refl 41) ?_
    refine Tr.putf dX4_readToken_41 pX4_29 rfl (rfl) (rfl) rfl (Eq.refl 44) ?_
    refine Tr.pic (w' := (tqC E ad len s kd s nu nm T)) rfl ?_
    refine Tr.aload_n (i := 0) dX4_readToken_44 rfl rfl (Eq.refl 45) ?_
    refine Tr.aload_n (i := 0) dX4_readToken_45 rfl rfl (Eq.refl 46) ?_
    refine Tr.aload_n (i := 0) dX4_readToken_46 rfl rfl (Eq.refl 47) ?_
    refine Tr.getf dX4_readToken_47 fX4_29 rfl rfl (Eq.refl 50) ?_
    refine Tr.callVs (t_kindAt E ad len s kd s nu nm T s hl hT (by omega)) dX4_readToken_50 (kX4_25 (Nat.le_of_ble_eq_true rfl)) iX4_kindAt rfl rfl rfl rfl rfl (tq_le) rfl rfl (Eq.refl 53) ?_
    rw [hkd]
    refine Tr.putf dX4_readToken_53 pX4_32 rfl (rfl) (rfl) rfl (Eq.refl 56) ?_
    refine Tr.aload_n (i := 0) dX4_readToken_56 rfl rfl (Eq.refl 57) ?_
    refine Tr.lconst (v := 0) dX4_readToken_57 (by decide +kernel) (Eq.refl 58) ?_
    refine Tr.putf dX4_readToken_58 pX4_35 rfl (rfl) (rfl) rfl (Eq.refl 61) ?_
    refine Tr.aload_n (i := 0) dX4_readToken_61 rfl rfl (Eq.refl 62) ?_
    refine Tr.iconst (v := nI 0) dX4_readToken_62 (icN 0) (Eq.refl 63) ?_
    refine Tr.putf dX4_readToken_63 pX4_39 rfl (rfl) (rfl) rfl (Eq.refl 66) ?_
    refine Tr.pic (w' := (tqC E ad len s 0 s 0 0 T)) rfl ?_
    refine Tr.aload_n (i := 0) dX4_readToken_66 rfl rfl (Eq.refl 67) ?_
    refine Tr.getf dX4_readToken_67 fX4_32 rfl rfl (Eq.refl 70) ?_
    refine Tr.iconst (v := nI 1) dX4_readToken_70 (icN 1) (Eq.refl 71) ?_
    refine Tr.icmp_eqN (tgt := 82) dX4_readToken_71 (by decide) (Eq.refl 74) (by omega) (by omega) (fun h71 => ?_) (fun h71 => ?_)
    · exact absurd h71 (by decide)
    · refine Tr.aload_n (i := 0) dX4_readToken_74 rfl rfl (Eq.refl 75) ?_
      refine Tr.getf dX4_readToken_75 fX4_32 rfl rfl (Eq.refl 78) ?_
      refine Tr.iconst (v := nI 2) dX4_readToken_78 (icN 2) (Eq.refl 79) ?_
      refine Tr.icmp_neN (tgt := 89) dX4_readToken_79 (by decide) (Eq.refl 82) (by omega) (by omega) (fun h79 => ?_) (fun h79 => ?_)
      · refine Tr.aload_n (i := 0) dX4_readToken_89 rfl rfl (Eq.refl 90) ?_
        refine Tr.getf dX4_readToken_90 fX4_32 rfl rfl (Eq.refl 93) ?_
        refine Tr.if_eq (tgt := 106) dX4_readToken_93 (by decide) (Eq.refl 96) (fun h93 => ?_) (fun h93 => ?_)
        · refine Tr.ret dX4_readToken_106 rfl rfl ?_
          · rfl
        · exact absurd rfl h93
      · exact absurd h79 (by decide)
set_option maxHeartbeats 4000000 in
set_option maxRecDepth 100000 in
theorem t_readFirst (E : EnvT) (ad : Nat → Nat) (len nx kd st nu nm : Nat) (T : Nat → Nat) (hl : len ≤ 900) (hT : ∀ k, k < 900 → T k < 256) : Md E mX4_readFirst ad [.ref (ad 0)] (tqC E ad len nx kd st nu nm T) none (tqC E ad len (tkE T len 0) (tkK T len 0) (tkS T len 0) (tkN T len 0) (tkM T len 0) T) := by
  refine Md.of 0 (by decide) rfl rfl ?_
  refine Tr.aload_n (i := 0) dX4_readFirst_0 rfl rfl (Eq.refl 1) ?_
  refine Tr.iconst (v := nI 0) dX4_readFirst_1 (icN 0) (Eq.refl 2) ?_
  refine Tr.putf dX4_readFirst_2 pX4_19 rfl (rfl) (rfl) rfl (Eq.refl 5) ?_
  refine Tr.pic (w' := (tqC E ad len 0 kd st nu nm T)) rfl ?_
  refine Tr.aload_n (i := 0) dX4_readFirst_5 rfl rfl (Eq.refl 6) ?_
  refine Tr.callVs (t_readToken E ad len 0 kd st nu nm T hl hT (by omega)) dX4_readFirst_6 (kX4_22 (Nat.le_of_ble_eq_true rfl)) iX4_readToken rfl rfl rfl rfl rfl (tq_le) rfl rfl (Eq.refl 9) ?_
  refine Tr.ret dX4_readFirst_9 rfl rfl ?_
  · rfl
set_option maxHeartbeats 4000000 in
set_option maxRecDepth 100000 in
theorem t_reads (E : EnvT) (ad : Nat → Nat) (len nx kd st nu nm : Nat) (T : Nat → Nat) (t : Nat) (ht : t < 12) (hl : len ≤ 900) (hT : ∀ k, k < 900 → T k < 256) (h1 : st ≤ nx) (h2 : nx ≤ len) (hh : kd < 10) : Md E mX4_reads ad [.ref (ad 0), .ref (E.2.2 t)] (tqC E ad len nx kd st nu nm T) (some (.int (bI (wdB T st nx kd t)))) (tqC E ad len nx kd st nu nm T) := by
  have h6 := tl_6 ht
  by_cases hc : kd = 1 ∧ nx - st = tlN t
  · have hx : wdB T st nx kd t = (itB (wlS T st t) () (tlN t)).1 := by unfold wdB; rw [decide_eq_true hc.1, decide_eq_true hc.2]; rfl
    rw [hx]
    clear hx
    generalize hR : (itB (wlS T st t) () (tlN t)) = R
    refine Md.of 1 (by decide) rfl rfl ?_
    refine Tr.aload_n (i := 0) dX4_reads_0 rfl rfl (Eq.refl 1) ?_
    refine Tr.getf dX4_reads_1 fX4_32 rfl rfl (Eq.refl 4) ?_
    refine Tr.iconst (v := nI 1) dX4_reads_4 (icN 1) (Eq.refl 5) ?_
    refine Tr.icmp_neN (tgt := 24) dX4_reads_5 (by decide) (Eq.refl 8) (by omega) (by omega) (fun h5 => ?_) (fun h5 => ?_)
    · exact absurd hc.1 h5
    · refine Tr.aload_n (i := 0) dX4_reads_8 rfl rfl (Eq.refl 9) ?_
      refine Tr.getf dX4_reads_9 fX4_19 rfl rfl (Eq.refl 12) ?_
      refine Tr.aload_n (i := 0) dX4_reads_12 rfl rfl (Eq.refl 13) ?_
      refine Tr.getf dX4_reads_13 fX4_29 rfl rfl (Eq.refl 16) ?_
      refine Tr.isub dX4_reads_16 (Eq.refl 17) ?_
      rw [pk_sub h1]
      refine Tr.aload_n (i := 1) dX4_reads_17 rfl rfl (Eq.refl 18) ?_
      refine Tr.callT (s_length E _ t ht) dX4_reads_18 (kX4_50 (Nat.le_of_ble_eq_true rfl)) iJ0_length_8abf5 (by omega) rfl rfl rfl rfl rfl rfl (Eq.refl 21) ?_
      refine Tr.icmp_eqN (tgt := 26) dX4_reads_21 (by decide) (Eq.refl 24) (by omega) (by omega) (fun h21 => ?_) (fun h21 => ?_)
      · refine Tr.iconst (v := nI 0) dX4_reads_26 (icN 0) (Eq.refl 27) ?_
        refine Tr.istore_n (i := 2) dX4_reads_27 rfl rfl rfl (Eq.refl 28) ?_
        skip
        refine Tr.mask [true, true, true] (lv' := [some (.ref (ad 0)), some (.ref (E.2.2 t)), some (.int (nI 0))]) rfl ?_
        refine loopD (P := fun j => (itB (wlS T st t) () j).1 = true → Tr _ 0 0 28 [some (.ref (ad 0)), some (.ref (E.2.2 t)), some (.int (nI j))] [] (tqC E ad len nx kd st nu nm T)) (tlN t) (fun hn => ?_) (fun j hj ih hn => ?_) rfl
        · rw [hR] at hn
          refine Tr.iload_n (i := 2) dX4_reads_28 rfl rfl (Eq.refl 29) ?_
          refine Tr.aload_n (i := 1) dX4_reads_29 rfl rfl (Eq.refl 30) ?_
          refine Tr.callT (s_length E _ t ht) dX4_reads_30 (kX4_50 (Nat.le_of_ble_eq_true rfl)) iJ0_length_8abf5 (by omega) rfl rfl rfl rfl rfl rfl (Eq.refl 33) ?_
          refine Tr.icmp_geN (tgt := 62) dX4_reads_33 (by decide) (Eq.refl 36) (by omega) (by omega) (fun h33 => ?_) (fun h33 => ?_)
          · refine Tr.iconst (v := nI 1) dX4_reads_62 (icN 1) (Eq.refl 63) ?_
            refine Tr.iret dX4_reads_63 rfl (by first | rfl | exact bI_nar _) ?_ ?_
            · rw [hn]; rfl
            · rfl
          · exact absurd h33 (by omega)
        · have hs := itB_s hn
          have hf : (itB (wlS T st t) () (j + 1)).1 = false → R = (itB (wlS T st t) () (j + 1)) := fun z9 => by rw [← hR]; exact itB_fr (Nat.succ_le_of_lt hj) z9
          rw [hs] at ih hf
          have hu : wlS T st t j (itB (wlS T st t) () j).2 = (decide (T (st + j) = tcN t j), ()) := rfl
          rw [hu] at ih hf
          clear hu hs
          have hTj := hT (st + j) (by omega)
          have hcj := tc_l ht hj
          have hb9 : byA len T (st + j) = nI (T (st + j)) := if_pos (by omega)
          refine Tr.iload_n (i := 2) dX4_reads_28 rfl rfl (Eq.refl 29) ?_
          refine Tr.aload_n (i := 1) dX4_reads_29 rfl rfl (Eq.refl 30) ?_
          refine Tr.callT (s_length E _ t ht) dX4_reads_30 (kX4_50 (Nat.le_of_ble_eq_true rfl)) iJ0_length_8abf5 (by omega) rfl rfl rfl rfl rfl rfl (Eq.refl 33) ?_
          refine Tr.icmp_geN (tgt := 62) dX4_reads_33 (by decide) (Eq.refl 36) (by omega) (by omega) (fun h33 => ?_) (fun h33 => ?_)
          · exact absurd h33 (by omega)
          · refine Tr.aload_n (i := 0) dX4_reads_36 rfl rfl (Eq.refl 37) ?_
            refine Tr.aload_n (i := 0) dX4_reads_37 rfl rfl (Eq.refl 38) ?_
            refine Tr.getf dX4_reads_38 fX4_29 rfl rfl (Eq.refl 41) ?_
            refine Tr.iload_n (i := 2) dX4_reads_41 rfl rfl (Eq.refl 42) ?_
            refine Tr.iaddN dX4_reads_42 (Eq.refl 43) ?_
            refine Tr.callVs (t_byteAt E ad len (nI nx, nI kd, nI st, nI nu) (lN nm) T (st + j) hl (by omega)) dX4_reads_43 (kX4_45 (Nat.le_of_ble_eq_true rfl)) iX4_byteAt rfl rfl rfl rfl rfl (tq_le) rfl rfl (Eq.refl 46) ?_
            rw [hb9]
            refine Tr.aload_n (i := 1) dX4_reads_46 rfl rfl (Eq.refl 47) ?_
            refine Tr.iload_n (i := 2) dX4_reads_47 rfl rfl (Eq.refl 48) ?_
            refine Tr.callT (s_charAt E _ t j ht hj) dX4_reads_48 (kX4_55 (Nat.le_of_ble_eq_true rfl)) iJ0_charAt_5068e (by omega) rfl rfl rfl rfl rfl rfl (Eq.refl 51) ?_
            refine Tr.icmp_eqN (tgt := 56) dX4_reads_51 (by decide) (Eq.refl 54) (by omega) (by omega) (fun h51 => ?_) (fun h51 => ?_)
            · refine Tr.iincN dX4_reads_56 rfl rfl rfl (Eq.refl 59) ?_
              refine Tr.goto (pc' := 28) dX4_reads_59 (by decide) ?_
              exact Tr.eqs rfl rfl rfl (ih (decide_eq_true h51))
            · refine Tr.iconst (v := nI 0) dX4_reads_54 (icN 0) (Eq.refl 55) ?_
              refine Tr.iret dX4_reads_55 rfl (by first | rfl | exact bI_nar _) ?_ ?_
              · rw [hf (decide_eq_false h51)]; rw [show (decide (T (st + j) = tcN t j), ()).1 = false from decide_eq_false h51]; rfl
              · rfl
      · exact absurd hc.2 h21
  · have hx : wdB T st nx kd t = false := by
      unfold wdB
      by_cases h3 : kd = 1
      · rw [decide_eq_true h3, decide_eq_false (fun z9 => hc ⟨h3, z9⟩)]; rfl
      · rw [decide_eq_false h3]; rfl
    rw [hx]
    clear hx
    refine Md.of 1 (by decide) rfl rfl ?_
    refine Tr.aload_n (i := 0) dX4_reads_0 rfl rfl (Eq.refl 1) ?_
    refine Tr.getf dX4_reads_1 fX4_32 rfl rfl (Eq.refl 4) ?_
    refine Tr.iconst (v := nI 1) dX4_reads_4 (icN 1) (Eq.refl 5) ?_
    refine Tr.icmp_neN (tgt := 24) dX4_reads_5 (by decide) (Eq.refl 8) (by omega) (by omega) (fun h5 => ?_) (fun h5 => ?_)
    · refine Tr.iconst (v := nI 0) dX4_reads_24 (icN 0) (Eq.refl 25) ?_
      refine Tr.iret dX4_reads_25 rfl (by first | rfl | exact bI_nar _) ?_ ?_
      · rfl
      · rfl
    · refine Tr.aload_n (i := 0) dX4_reads_8 rfl rfl (Eq.refl 9) ?_
      refine Tr.getf dX4_reads_9 fX4_19 rfl rfl (Eq.refl 12) ?_
      refine Tr.aload_n (i := 0) dX4_reads_12 rfl rfl (Eq.refl 13) ?_
      refine Tr.getf dX4_reads_13 fX4_29 rfl rfl (Eq.refl 16) ?_
      refine Tr.isub dX4_reads_16 (Eq.refl 17) ?_
      rw [pk_sub h1]
      refine Tr.aload_n (i := 1) dX4_reads_17 rfl rfl (Eq.refl 18) ?_
      refine Tr.callT (s_length E _ t ht) dX4_reads_18 (kX4_50 (Nat.le_of_ble_eq_true rfl)) iJ0_length_8abf5 (by omega) rfl rfl rfl rfl rfl rfl (Eq.refl 21) ?_
      refine Tr.icmp_eqN (tgt := 26) dX4_reads_21 (by decide) (Eq.refl 24) (by omega) (by omega) (fun h21 => ?_) (fun h21 => ?_)
      · exact absurd ⟨h5, h21⟩ hc
      · refine Tr.iconst (v := nI 0) dX4_reads_24 (icN 0) (Eq.refl 25) ?_
        refine Tr.iret dX4_reads_25 rfl (by first | rfl | exact bI_nar _) ?_ ?_
        · rfl
        · rfl
