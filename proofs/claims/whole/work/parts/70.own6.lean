/-! OwnedByGuests: a village told -/
/-- object, teller, tape, the village to be told, the village, course, slots -/
def xwC (E : EnvT) (ad r : Nat → Nat) (hf : Int32) (vp ip : Nat) (fk pl : Int32) (len nx kk st nu nm : Nat) (T : Nat → Nat) (Vi : Vil) (Xi : Vix) (V : Vil) (X : Vix) (N Q0 Q1 Q2 : Crs) : List va_E := (.inr (9, [.ref (ad 2), .ref (ad 1), .ref (ad vp), .ref (ad 26), .ref (ad 38), .ref (r 5), .ref (r 6), .ref (r 7), .int hf]) : va_E) :: ((.inr (5, [.ref (ad 2), .ref (ad ip), .int fk, .int pl]) : va_E) :: (tpC E ad 2 len (nI nx, nI kk, nI st, nI nu) (lN nm) T ++ (viC E ad 4 Vi Xi ++ (viC E ad 15 V X ++ (coQ E ad 26 N ++ ([aR E 4 3 (fun k => some (ad (39 + 12 * k)))] ++ (coQ E ad 39 Q0 ++ (coQ E ad 51 Q1 ++ coQ E ad 63 Q2))))))))
/-- a course begun in a village -/
def bgQ (V : Vil) (X : Vix) (N : Crs) : Crs := (sBeg V X, pBeg V, (fun _ => nI 31), N.2.2.2.1, N.2.2.2.2.1, N.2.2.2.2.2)
def unQ (Q : Crs) : Crs := (Q.1, Q.2.1, Q.2.2.1, Q.2.2.2.1, false, Q.2.2.2.2.2)
set_option maxHeartbeats 4000000 in
set_option maxRecDepth 100000 in
theorem x_village (E : EnvT) (ad r : Nat → Nat) (hf fk pl : Int32) (len nx kk st nu nm : Nat) (T : Nat → Nat) (Vi : Vil) (Xi : Vix) (V : Vil) (X : Vix) (N Q0 Q1 Q2 : Crs) (hl : len ≤ 900) (hT : ∀ k, k < 900 → T k < 256) (z : Tlt len) (hz : z = (tlA T len Vi Xi)) : Md E mX9_village ad [.ref (ad 0)] (xwC E ad r hf 15 4 fk pl len nx kk st nu nm T Vi Xi V X N Q0 Q1 Q2) (some (.int (if z.2.2.2.1 = 0 then z.2.2.1.1 else -1))) (if z.2.2.2.1 = 0 then (xwC E ad r (nI 0) 4 15 (nI z.2.2.2.1) z.2.2.2.2 0 (tkE T len z.1.1) (tkK T len z.1.1) (tkS T len z.1.1) (tkN T len z.1.1) (tkM T len z.1.1) T z.2.1 z.2.2.1 V X (bgQ z.2.1 z.2.2.1 N) (unQ Q0) (unQ Q1) (unQ Q2)) else (xwC E ad r hf 15 4 (nI z.2.2.2.1) z.2.2.2.2 0 (tkE T len z.1.1) (tkK T len z.1.1) (tkS T len z.1.1) (tkN T len z.1.1) (tkM T len z.1.1) T z.2.1 z.2.2.1 V X N Q0 Q1 Q2)) := by
  have hA := l_tellAll E (adc ad [1, 2, 3, 4, 5, 6, 7, 8, 9, 10, 11, 12, 13, 14] 75) len T nx kk st nu nm Vi Xi fk pl hl hT
  rw [← hz] at hA
  clear hz
  by_cases hc : z.2.2.2.1 = 0
  · rw [if_pos hc, if_pos hc]
    rw [decide_eq_true hc] at hA
    refine Md.of 3 (by decide) rfl rfl ?_
    refine Tr.aload_n (i := 0) dX9_village_0 rfl rfl (Eq.refl 1) ?_
    refine Tr.getf dX9_village_1 fX9_21 rfl rfl (Eq.refl 4) ?_
    refine Tr.callV (L := [1, 2, 3, 4, 5, 6, 7, 8, 9, 10, 11, 12, 13, 14]) (hA) dX9_village_4 (kX9_76 (Nat.le_of_ble_eq_true rfl)) iX5_tellAll rfl rfl rfl rfl rfl rfl rfl rfl rfl rfl (Eq.refl 7) ?_
    refine Tr.pic (w' := xwC E ad r hf 15 4 (nI z.2.2.2.1) z.2.2.2.2 len (tkE T len z.1.1) (tkK T len z.1.1) (tkS T len z.1.1) (tkN T len z.1.1) (tkM T len z.1.1) T z.2.1 z.2.2.1 V X N Q0 Q1 Q2) (putB_eq (Lc := [0, 15, 16, 17, 18, 19, 20, 21, 22, 23, 24, 25, 26, 27, 28, 29, 30, 31, 32, 33, 34, 35, 36, 37, 38, 39, 40, 41, 42, 43, 44, 45, 46, 47, 48, 49, 50, 51, 52, 53, 54, 55, 56, 57, 58, 59, 60, 61, 62, 63, 64, 65, 66, 67, 68, 69, 70, 71, 72, 73, 74]) 75 rfl rfl rfl rfl ⟨⟨_, rfl, rfl⟩, ⟨_, rfl, rfl⟩, ⟨_, rfl, rfl⟩, ⟨_, rfl, rfl⟩, ⟨_, rfl, rfl⟩, ⟨_, rfl, rfl⟩, ⟨_, rfl, rfl⟩, ⟨_, rfl, rfl⟩, ⟨_, rfl, rfl⟩, ⟨_, rfl, rfl⟩, ⟨_, rfl, rfl⟩, ⟨_, rfl, rfl⟩, ⟨_, rfl, rfl⟩, ⟨_, rfl, rfl⟩, ⟨_, rfl, rfl⟩, ⟨_, rfl, rfl⟩, ⟨_, rfl, rfl⟩, ⟨_, rfl, rfl⟩, ⟨_, rfl, rfl⟩, ⟨_, rfl, rfl⟩, ⟨_, rfl, rfl⟩, ⟨_, rfl, rfl⟩, ⟨_, rfl, rfl⟩, ⟨_, rfl, rfl⟩, ⟨_, rfl, rfl⟩, ⟨_, rfl, rfl⟩, ⟨_, rfl, rfl⟩, ⟨_, rfl, rfl⟩, ⟨_, rfl, rfl⟩, ⟨_, rfl, rfl⟩, ⟨_, rfl, rfl⟩, ⟨_, rfl, rfl⟩, ⟨_, rfl, rfl⟩, ⟨_, rfl, rfl⟩, ⟨_, rfl, rfl⟩, ⟨_, rfl, rfl⟩, ⟨_, rfl, rfl⟩, ⟨_, rfl, rfl⟩, ⟨_, rfl, rfl⟩, ⟨_, rfl, rfl⟩, ⟨_, rfl, rfl⟩, ⟨_, rfl, rfl⟩, ⟨_, rfl, rfl⟩, ⟨_, rfl, rfl⟩, ⟨_, rfl, rfl⟩, ⟨_, rfl, rfl⟩, ⟨_, rfl, rfl⟩, ⟨_, rfl, rfl⟩, ⟨_, rfl, rfl⟩, ⟨_, rfl, rfl⟩, ⟨_, rfl, rfl⟩, ⟨_, rfl, rfl⟩, ⟨_, rfl, rfl⟩, ⟨_, rfl, rfl⟩, ⟨_, rfl, rfl⟩, ⟨_, rfl, rfl⟩, ⟨_, rfl, rfl⟩, ⟨_, rfl, rfl⟩, ⟨_, rfl, rfl⟩, ⟨_, rfl, rfl⟩, ⟨_, rfl, rfl⟩, trivial⟩ (by decide) rfl) ?_
    refine Tr.istore_n (i := 1) dX9_village_7 rfl rfl rfl (Eq.refl 8) ?_
    refine Tr.aload_n (i := 0) dX9_village_8 rfl rfl (Eq.refl 9) ?_
    refine Tr.getf dX9_village_9 fX9_10 rfl rfl (Eq.refl 12) ?_
    refine Tr.iconst (v := nI 0) dX9_village_12 (icN 0) (Eq.refl 13) ?_
    refine Tr.putf dX9_village_13 pX9_68 rfl (rfl) (rfl) rfl (Eq.refl 16) ?_
    refine Tr.pic (w' := xwC E ad r hf 15 4 (nI z.2.2.2.1) z.2.2.2.2 0 (tkE T len z.1.1) (tkK T len z.1.1) (tkS T len z.1.1) (tkN T len z.1.1) (tkM T len z.1.1) T z.2.1 z.2.2.1 V X N Q0 Q1 Q2) rfl ?_
    refine Tr.iload_n (i := 1) dX9_village_16 rfl rfl (Eq.refl 17) ?_
    refine Tr.if_neB (tgt := 22) dX9_village_17 (by decide) (Eq.refl 20) (fun h17 => ?_) (fun h17 => ?_)
    · refine Tr.aload_n (i := 0) dX9_village_22 rfl rfl (Eq.refl 23) ?_
      refine Tr.getf dX9_village_23 fX9_28 rfl rfl (Eq.refl 26) ?_
      refine Tr.astore_n (i := 2) dX9_village_26 rfl rfl rfl (Eq.refl 27) ?_
      refine Tr.aload_n (i := 0) dX9_village_27 rfl rfl (Eq.refl 28) ?_
      refine Tr.aload_n (i := 0) dX9_village_28 rfl rfl (Eq.refl 29) ?_
      refine Tr.getf dX9_village_29 fX9_21 rfl rfl (Eq.refl 32) ?_
      refine Tr.getf dX9_village_32 fX9_80 rfl rfl (Eq.refl 35) ?_
      refine Tr.putf dX9_village_35 pX9_28 rfl (rfl) (rfl) rfl (Eq.refl 38) ?_
      refine Tr.aload_n (i := 0) dX9_village_38 rfl rfl (Eq.refl 39) ?_
      refine Tr.getf dX9_village_39 fX9_21 rfl rfl (Eq.refl 42) ?_
      refine Tr.aload_n (i := 2) dX9_village_42 rfl rfl (Eq.refl 43) ?_
      refine Tr.putf dX9_village_43 pX9_80 rfl (rfl) (rfl) rfl (Eq.refl 46) ?_
      refine Tr.pic (w' := xwC E ad r hf 4 15 (nI z.2.2.2.1) z.2.2.2.2 0 (tkE T len z.1.1) (tkK T len z.1.1) (tkS T len z.1.1) (tkN T len z.1.1) (tkM T len z.1.1) T z.2.1 z.2.2.1 V X N Q0 Q1 Q2) rfl ?_
      refine Tr.aload_n (i := 0) dX9_village_46 rfl rfl (Eq.refl 47) ?_
      refine Tr.getf dX9_village_47 fX9_35 rfl rfl (Eq.refl 50) ?_
      refine Tr.aload_n (i := 0) dX9_village_50 rfl rfl (Eq.refl 51) ?_
      refine Tr.getf dX9_village_51 fX9_28 rfl rfl (Eq.refl 54) ?_
      refine Tr.callV (L := [26, 27, 28, 29, 30, 31, 32, 33, 34, 35, 36, 37, 4, 5, 6, 7, 8, 9, 10, 11, 12, 13, 14]) (c_coBegin E _ N.1 N.2.1 N.2.2.1 N.2.2.2.1 N.2.2.2.2.1 N.2.2.2.2.2 z.2.1 z.2.2.1) dX9_village_54 (kX9_64 (Nat.le_of_ble_eq_true rfl)) iX1_begin rfl rfl rfl rfl rfl rfl rfl rfl rfl rfl (Eq.refl 57) ?_
      refine Tr.pic (w' := xwC E ad r hf 4 15 (nI z.2.2.2.1) z.2.2.2.2 0 (tkE T len z.1.1) (tkK T len z.1.1) (tkS T len z.1.1) (tkN T len z.1.1) (tkM T len z.1.1) T z.2.1 z.2.2.1 V X (bgQ z.2.1 z.2.2.1 N) Q0 Q1 Q2) (putB_eq (Lc := [0, 1, 2, 3, 15, 16, 17, 18, 19, 20, 21, 22, 23, 24, 25, 38, 39, 40, 41, 42, 43, 44, 45, 46, 47, 48, 49, 50, 51, 52, 53, 54, 55, 56, 57, 58, 59, 60, 61, 62, 63, 64, 65, 66, 67, 68, 69, 70, 71, 72, 73, 74]) 75 rfl rfl rfl rfl ⟨⟨_, rfl, rfl⟩, ⟨_, rfl, rfl⟩, ⟨_, rfl, rfl⟩, ⟨_, rfl, rfl⟩, ⟨_, rfl, rfl⟩, ⟨_, rfl, rfl⟩, ⟨_, rfl, rfl⟩, ⟨_, rfl, rfl⟩, ⟨_, rfl, rfl⟩, ⟨_, rfl, rfl⟩, ⟨_, rfl, rfl⟩, ⟨_, rfl, rfl⟩, ⟨_, rfl, rfl⟩, ⟨_, rfl, rfl⟩, ⟨_, rfl, rfl⟩, ⟨_, rfl, rfl⟩, ⟨_, rfl, rfl⟩, ⟨_, rfl, rfl⟩, ⟨_, rfl, rfl⟩, ⟨_, rfl, rfl⟩, ⟨_, rfl, rfl⟩, ⟨_, rfl, rfl⟩, ⟨_, rfl, rfl⟩, ⟨_, rfl, rfl⟩, ⟨_, rfl, rfl⟩, ⟨_, rfl, rfl⟩, ⟨_, rfl, rfl⟩, ⟨_, rfl, rfl⟩, ⟨_, rfl, rfl⟩, ⟨_, rfl, rfl⟩, ⟨_, rfl, rfl⟩, ⟨_, rfl, rfl⟩, ⟨_, rfl, rfl⟩, ⟨_, rfl, rfl⟩, ⟨_, rfl, rfl⟩, ⟨_, rfl, rfl⟩, ⟨_, rfl, rfl⟩, ⟨_, rfl, rfl⟩, ⟨_, rfl, rfl⟩, ⟨_, rfl, rfl⟩, ⟨_, rfl, rfl⟩, ⟨_, rfl, rfl⟩, ⟨_, rfl, rfl⟩, ⟨_, rfl, rfl⟩, ⟨_, rfl, rfl⟩, ⟨_, rfl, rfl⟩, ⟨_, rfl, rfl⟩, ⟨_, rfl, rfl⟩, ⟨_, rfl, rfl⟩, ⟨_, rfl, rfl⟩, ⟨_, rfl, rfl⟩, ⟨_, rfl, rfl⟩, trivial⟩ (by decide) rfl) ?_
      refine Tr.iconst (v := nI 0) dX9_village_57 (icN 0) (Eq.refl 58) ?_
      refine Tr.istore_n (i := 3) dX9_village_58 rfl rfl rfl (Eq.refl 59) ?_
      refine Tr.iload_n (i := 3) dX9_village_59 rfl rfl (Eq.refl 60) ?_
      refine Tr.iconst (v := nI 3) dX9_village_60 (icN 3) (Eq.refl 61) ?_
      refine Tr.icmp_geL (tgt := 80) dX9_village_61 (by decide) (Eq.refl 64) (fun h => absurd h (by decide)) (fun _ => ?_)
      refine Tr.aload_n (i := 0) dX9_village_64 rfl rfl (Eq.refl 65) ?_
      refine Tr.getf dX9_village_65 fX9_39 rfl rfl (Eq.refl 68) ?_
      refine Tr.iload_n (i := 3) dX9_village_68 rfl rfl (Eq.refl 69) ?_
      refine Tr.aald dX9_village_69 rfl rfl (by omega) (by decide) rfl (Eq.refl 70) ?_
      refine Tr.iconst (v := nI 0) dX9_village_70 (icN 0) (Eq.refl 71) ?_
      refine Tr.putf dX9_village_71 pX9_83 rfl (rfl) (rfl) rfl (Eq.refl 74) ?_
      refine Tr.iinc (v := nI 1) dX9_village_74 rfl (by decide +kernel) rfl rfl (Eq.refl 77) ?_
      refine Tr.goto (pc' := 59) dX9_village_77 (by decide) ?_
      refine Tr.iload_n (i := 3) dX9_village_59 rfl rfl (Eq.refl 60) ?_
      refine Tr.iconst (v := nI 3) dX9_village_60 (icN 3) (Eq.refl 61) ?_
      refine Tr.icmp_geL (tgt := 80) dX9_village_61 (by decide) (Eq.refl 64) (fun h => absurd h (by decide)) (fun _ => ?_)
      refine Tr.aload_n (i := 0) dX9_village_64 rfl rfl (Eq.refl 65) ?_
      refine Tr.getf dX9_village_65 fX9_39 rfl rfl (Eq.refl 68) ?_
      refine Tr.iload_n (i := 3) dX9_village_68 rfl rfl (Eq.refl 69) ?_
      refine Tr.aald dX9_village_69 rfl rfl (by omega) (by decide) rfl (Eq.refl 70) ?_
      refine Tr.iconst (v := nI 0) dX9_village_70 (icN 0) (Eq.refl 71) ?_
      refine Tr.putf dX9_village_71 pX9_83 rfl (rfl) (rfl) rfl (Eq.refl 74) ?_
      refine Tr.iinc (v := nI 2) dX9_village_74 rfl (by decide +kernel) rfl rfl (Eq.refl 77) ?_
      refine Tr.goto (pc' := 59) dX9_village_77 (by decide) ?_
      refine Tr.iload_n (i := 3) dX9_village_59 rfl rfl (Eq.refl 60) ?_
      refine Tr.iconst (v := nI 3) dX9_village_60 (icN 3) (Eq.refl 61) ?_
      refine Tr.icmp_geL (tgt := 80) dX9_village_61 (by decide) (Eq.refl 64) (fun h => absurd h (by decide)) (fun _ => ?_)
      refine Tr.aload_n (i := 0) dX9_village_64 rfl rfl (Eq.refl 65) ?_
      refine Tr.getf dX9_village_65 fX9_39 rfl rfl (Eq.refl 68) ?_
      refine Tr.iload_n (i := 3) dX9_village_68 rfl rfl (Eq.refl 69) ?_
      refine Tr.aald dX9_village_69 rfl rfl (by omega) (by decide) rfl (Eq.refl 70) ?_
      refine Tr.iconst (v := nI 0) dX9_village_70 (icN 0) (Eq.refl 71) ?_
      refine Tr.putf dX9_village_71 pX9_83 rfl (rfl) (rfl) rfl (Eq.refl 74) ?_
      refine Tr.iinc (v := nI 3) dX9_village_74 rfl (by decide +kernel) rfl rfl (Eq.refl 77) ?_
      refine Tr.goto (pc' := 59) dX9_village_77 (by decide) ?_
      refine Tr.iload_n (i := 3) dX9_village_59 rfl rfl (Eq.refl 60) ?_
      refine Tr.iconst (v := nI 3) dX9_village_60 (icN 3) (Eq.refl 61) ?_
      refine Tr.icmp_geL (tgt := 80) dX9_village_61 (by decide) (Eq.refl 64) (fun _ => ?_) (fun h => absurd h (by decide))
      refine Tr.aload_n (i := 0) dX9_village_80 rfl rfl (Eq.refl 81) ?_
      refine Tr.iconst (v := nI 0) dX9_village_81 (icN 0) (Eq.refl 82) ?_
      refine Tr.putf dX9_village_82 pX9_87 rfl (rfl) (rfl) rfl (Eq.refl 85) ?_
      refine Tr.aload_n (i := 0) dX9_village_85 rfl rfl (Eq.refl 86) ?_
      refine Tr.getf dX9_village_86 fX9_28 rfl rfl (Eq.refl 89) ?_
      refine Tr.getf dX9_village_89 fX9_90 rfl rfl (Eq.refl 92) ?_
      refine Tr.iret dX9_village_92 rfl (by first | rfl | exact bI_nar _) ?_ ?_
      · rfl
      · rfl
    · exact absurd h17 (by decide)
  · rw [if_neg hc, if_neg hc]
    rw [decide_eq_false hc] at hA
    refine Md.of 3 (by decide) rfl rfl ?_
    refine Tr.aload_n (i := 0) dX9_village_0 rfl rfl (Eq.refl 1) ?_
    refine Tr.getf dX9_village_1 fX9_21 rfl rfl (Eq.refl 4) ?_
    refine Tr.callV (L := [1, 2, 3, 4, 5, 6, 7, 8, 9, 10, 11, 12, 13, 14]) (hA) dX9_village_4 (kX9_76 (Nat.le_of_ble_eq_true rfl)) iX5_tellAll rfl rfl rfl rfl rfl rfl rfl rfl rfl rfl (Eq.refl 7) ?_
    refine Tr.pic (w' := xwC E ad r hf 15 4 (nI z.2.2.2.1) z.2.2.2.2 len (tkE T len z.1.1) (tkK T len z.1.1) (tkS T len z.1.1) (tkN T len z.1.1) (tkM T len z.1.1) T z.2.1 z.2.2.1 V X N Q0 Q1 Q2) (putB_eq (Lc := [0, 15, 16, 17, 18, 19, 20, 21, 22, 23, 24, 25, 26, 27, 28, 29, 30, 31, 32, 33, 34, 35, 36, 37, 38, 39, 40, 41, 42, 43, 44, 45, 46, 47, 48, 49, 50, 51, 52, 53, 54, 55, 56, 57, 58, 59, 60, 61, 62, 63, 64, 65, 66, 67, 68, 69, 70, 71, 72, 73, 74]) 75 rfl rfl rfl rfl ⟨⟨_, rfl, rfl⟩, ⟨_, rfl, rfl⟩, ⟨_, rfl, rfl⟩, ⟨_, rfl, rfl⟩, ⟨_, rfl, rfl⟩, ⟨_, rfl, rfl⟩, ⟨_, rfl, rfl⟩, ⟨_, rfl, rfl⟩, ⟨_, rfl, rfl⟩, ⟨_, rfl, rfl⟩, ⟨_, rfl, rfl⟩, ⟨_, rfl, rfl⟩, ⟨_, rfl, rfl⟩, ⟨_, rfl, rfl⟩, ⟨_, rfl, rfl⟩, ⟨_, rfl, rfl⟩, ⟨_, rfl, rfl⟩, ⟨_, rfl, rfl⟩, ⟨_, rfl, rfl⟩, ⟨_, rfl, rfl⟩, ⟨_, rfl, rfl⟩, ⟨_, rfl, rfl⟩, ⟨_, rfl, rfl⟩, ⟨_, rfl, rfl⟩, ⟨_, rfl, rfl⟩, ⟨_, rfl, rfl⟩, ⟨_, rfl, rfl⟩, ⟨_, rfl, rfl⟩, ⟨_, rfl, rfl⟩, ⟨_, rfl, rfl⟩, ⟨_, rfl, rfl⟩, ⟨_, rfl, rfl⟩, ⟨_, rfl, rfl⟩, ⟨_, rfl, rfl⟩, ⟨_, rfl, rfl⟩, ⟨_, rfl, rfl⟩, ⟨_, rfl, rfl⟩, ⟨_, rfl, rfl⟩, ⟨_, rfl, rfl⟩, ⟨_, rfl, rfl⟩, ⟨_, rfl, rfl⟩, ⟨_, rfl, rfl⟩, ⟨_, rfl, rfl⟩, ⟨_, rfl, rfl⟩, ⟨_, rfl, rfl⟩, ⟨_, rfl, rfl⟩, ⟨_, rfl, rfl⟩, ⟨_, rfl, rfl⟩, ⟨_, rfl, rfl⟩, ⟨_, rfl, rfl⟩, ⟨_, rfl, rfl⟩, ⟨_, rfl, rfl⟩, ⟨_, rfl, rfl⟩, ⟨_, rfl, rfl⟩, ⟨_, rfl, rfl⟩, ⟨_, rfl, rfl⟩, ⟨_, rfl, rfl⟩, ⟨_, rfl, rfl⟩, ⟨_, rfl, rfl⟩, ⟨_, rfl, rfl⟩, ⟨_, rfl, rfl⟩, trivial⟩ (by decide) rfl) ?_
    refine Tr.istore_n (i := 1) dX9_village_7 rfl rfl rfl (Eq.refl 8) ?_
    refine Tr.aload_n (i := 0) dX9_village_8 rfl rfl (Eq.refl 9) ?_
    refine Tr.getf dX9_village_9 fX9_10 rfl rfl (Eq.refl 12) ?_
    refine Tr.iconst (v := nI 0) dX9_village_12 (icN 0) (Eq.refl 13) ?_
    refine Tr.putf dX9_village_13 pX9_68 rfl (rfl) (rfl) rfl (Eq.refl 16) ?_
    refine Tr.pic (w' := xwC E ad r hf 15 4 (nI z.2.2.2.1) z.2.2.2.2 0 (tkE T len z.1.1) (tkK T len z.1.1) (tkS T len z.1.1) (tkN T len z.1.1) (tkM T len z.1.1) T z.2.1 z.2.2.1 V X N Q0 Q1 Q2) rfl ?_
    refine Tr.iload_n (i := 1) dX9_village_16 rfl rfl (Eq.refl 17) ?_
    refine Tr.if_neB (tgt := 22) dX9_village_17 (by decide) (Eq.refl 20) (fun h17 => ?_) (fun h17 => ?_)
    · exact absurd h17 (by decide)
    · refine Tr.iconst (v := (-1)) dX9_village_20 (by decide +kernel) (Eq.refl 21) ?_
      refine Tr.iret dX9_village_21 rfl (by first | rfl | exact bI_nar _) ?_ ?_
      · rfl
      · rfl
