/-! a village cleared; Teller: a clause, all -/
def cV (V : Vil) : Vil := (0, 0, false, ruU, woV V, (fun _ => 5), (fun _ => 5), (fun _ => nI 0), (fun _ => nI 0))
def cX (X : Vix) : Vix := (nI 0, nI 0, nI 0, X.2.2.2)
set_option maxHeartbeats 4000000 in
set_option maxRecDepth 100000 in
theorem v_clear (E : EnvT) (ad : Nat → Nat) (V : Vil) (X : Vix) : Md E mX7_clear ad [.ref (ad 0)] (viC E ad 0 V X) none (viC E ad 0 (cV V) (cX X)) := by
  refine Md.of 1 (by decide) rfl rfl ?_
  refine Tr.aload_n (i := 0) dX7_clear_0 rfl rfl (Eq.refl 1) ?_
  refine Tr.iconst (v := nI 0) dX7_clear_1 (icN 0) (Eq.refl 2) ?_
  refine Tr.putf dX7_clear_2 pX7_43 rfl (rfl) (rfl) rfl (Eq.refl 5) ?_
  refine Tr.aload_n (i := 0) dX7_clear_5 rfl rfl (Eq.refl 6) ?_
  refine Tr.iconst (v := nI 0) dX7_clear_6 (icN 0) (Eq.refl 7) ?_
  refine Tr.putf dX7_clear_7 pX7_47 rfl (rfl) (rfl) rfl (Eq.refl 10) ?_
  refine Tr.aload_n (i := 0) dX7_clear_10 rfl rfl (Eq.refl 11) ?_
  refine Tr.iconst (v := nI 0) dX7_clear_11 (icN 0) (Eq.refl 12) ?_
  refine Tr.putf dX7_clear_12 pX7_50 rfl (rfl) (rfl) rfl (Eq.refl 15) ?_
  refine Tr.aload_n (i := 0) dX7_clear_15 rfl rfl (Eq.refl 16) ?_
  refine Tr.iconst (v := nI 0) dX7_clear_16 (icN 0) (Eq.refl 17) ?_
  refine Tr.putf dX7_clear_17 pX7_53 rfl (rfl) (rfl) rfl (Eq.refl 20) ?_
  refine Tr.aload_n (i := 0) dX7_clear_20 rfl rfl (Eq.refl 21) ?_
  refine Tr.iconst (v := nI 0) dX7_clear_21 (icN 0) (Eq.refl 22) ?_
  refine Tr.putf dX7_clear_22 pX7_57 rfl (rfl) (rfl) rfl (Eq.refl 25) ?_
  refine Tr.aload_n (i := 0) dX7_clear_25 rfl rfl (Eq.refl 26) ?_
  refine Tr.iconst (v := nI 0) dX7_clear_26 (icN 0) (Eq.refl 27) ?_
  refine Tr.putf dX7_clear_27 pX7_60 rfl (rfl) (rfl) rfl (Eq.refl 30) ?_
  refine Tr.gsRU dX7_clear_30 nl_un (Eq.refl 33) ?_
  refine Tr.iconst (v := nI 0) dX7_clear_33 (icN 0) (Eq.refl 34) ?_
  refine Tr.aload_n (i := 0) dX7_clear_34 rfl rfl (Eq.refl 35) ?_
  refine Tr.getf dX7_clear_35 fX7_9 rfl rfl (Eq.refl 38) ?_
  refine Tr.iconst (v := nI 0) dX7_clear_38 (icN 0) (Eq.refl 39) ?_
  refine Tr.bipush (v := nI 6) dX7_clear_39 (by decide +kernel) (Eq.refl 41) ?_
  refine Tr.copyU dX7_clear_41 acX7_66 rfl rfl rfl (Eq.refl 44) ?_
  refine Tr.fn (q := 1) ruU rfl (fun k hk => cpy_all hk) ?_
  refine Tr.pic (w' := viC E ad 0 (0, 0, false, ruU, woV V, (owV V), (hoV V), (wkV V), (tiV V)) (nI 0, nI 0, nI 0, X.2.2.2)) rfl ?_
  refine Tr.iconst (v := nI 0) dX7_clear_44 (icN 0) (Eq.refl 45) ?_
  refine Tr.istore_n (i := 1) dX7_clear_45 rfl rfl rfl (Eq.refl 46) ?_
  skip
  refine Tr.mask [true, true] (lv' := [some (.ref (ad 0)), some (.int (nI 0))]) rfl ?_
  have e1 : owV V = pre (fun _ => 5) (owV V) 0 := funext fun k => (if_neg (Nat.not_lt_zero k)).symm
  have e2 : hoV V = pre (fun _ => 5) (hoV V) 0 := funext fun k => (if_neg (Nat.not_lt_zero k)).symm
  have e3 : wkV V = pre (fun _ => nI 0) (wkV V) 0 := funext fun k => (if_neg (Nat.not_lt_zero k)).symm
  refine Tr.pic (w' := viC E ad 0 (0, 0, false, ruU, woV V, (pre (fun _ => 5) (owV V) 0), (pre (fun _ => 5) (hoV V) 0), (pre (fun _ => nI 0) (wkV V) 0), (tiV V)) (nI 0, nI 0, nI 0, X.2.2.2)) (by rw [← e1, ← e2, ← e3]) ?_
  clear e1 e2 e3
  refine loopD (P := fun j => Tr _ 0 0 46 [some (.ref (ad 0)), some (.int (nI j))] [] (viC E ad 0 (0, 0, false, ruU, woV V, (pre (fun _ => 5) (owV V) j), (pre (fun _ => 5) (hoV V) j), (pre (fun _ => nI 0) (wkV V) j), (tiV V)) (nI 0, nI 0, nI 0, X.2.2.2))) 5 ?_ (fun j hj ih => ?_)
  · refine Tr.iload_n (i := 1) dX7_clear_46 rfl rfl (Eq.refl 47) ?_
    refine Tr.iconst (v := nI 5) dX7_clear_47 (icN 5) (Eq.refl 48) ?_
    refine Tr.icmp_geN (tgt := 78) dX7_clear_48 (by decide) (Eq.refl 51) (by omega) (by omega) (fun h48 => ?_) (fun h48 => ?_)
    · refine Tr.iconst (v := nI 0) dX7_clear_78 (icN 0) (Eq.refl 79) ?_
      refine Tr.istore_n (i := 1) dX7_clear_79 rfl rfl rfl (Eq.refl 80) ?_
      skip
      refine Tr.mask [true, true] (lv' := [some (.ref (ad 0)), some (.int (nI 0))]) rfl ?_
      refine Tr.pic (w' := viC E ad 0 (0, 0, false, ruU, woV V, (pre (fun _ => 5) (owV V) 5), (pre (fun _ => 5) (hoV V) 5), (pre (fun _ => nI 0) (wkV V) 5), (pre (fun _ => nI 0) (tiV V) 0)) (nI 0, nI 0, nI 0, X.2.2.2)) (by exact congrArg (fun x => viC E ad 0 (0, 0, false, ruU, woV V, (pre (fun _ => 5) (owV V) 5), (pre (fun _ => 5) (hoV V) 5), (pre (fun _ => nI 0) (wkV V) 5), x) (nI 0, nI 0, nI 0, X.2.2.2)) (show tiV V = pre (fun _ => nI 0) (tiV V) 0 from funext fun k => (if_neg (Nat.not_lt_zero k)).symm)) ?_
      refine loopD (P := fun j => Tr _ 0 0 80 [some (.ref (ad 0)), some (.int (nI j))] [] (viC E ad 0 (0, 0, false, ruU, woV V, (pre (fun _ => 5) (owV V) 5), (pre (fun _ => 5) (hoV V) 5), (pre (fun _ => nI 0) (wkV V) 5), (pre (fun _ => nI 0) (tiV V) j)) (nI 0, nI 0, nI 0, X.2.2.2))) 25 ?_ (fun j hj ih => ?_)
      · refine Tr.fn (q := 10) (fun _ => nI 0) rfl (fun k hk => (show pre (fun _ => nI 0) (tiV V) 25 k = nI 0 from pre_n hk)) ?_
        refine Tr.fn (q := 9) (fun _ => nI 0) rfl (fun k hk => (show pre (fun _ => nI 0) (wkV V) 5 k = nI 0 from pre_n hk)) ?_
        refine Tr.fn (q := 6) (fun k => cl ((fun _ => 5) k)) rfl (fun k hk => congrArg cl (show pre (fun _ => 5) (owV V) 5 k = 5 from pre_n hk)) ?_
        refine Tr.fn (q := 8) (fun k => cl ((fun _ => 5) k)) rfl (fun k hk => congrArg cl (show pre (fun _ => 5) (hoV V) 5 k = 5 from pre_n hk)) ?_
        refine Tr.pic (w' := viC E ad 0 (cV V) (cX X)) rfl ?_
        refine Tr.iload_n (i := 1) dX7_clear_80 rfl rfl (Eq.refl 81) ?_
        refine Tr.bipush (v := nI 25) dX7_clear_81 (by decide +kernel) (Eq.refl 83) ?_
        refine Tr.icmp_geN (tgt := 99) dX7_clear_83 (by decide) (Eq.refl 86) (by omega) (by omega) (fun h83 => ?_) (fun h83 => ?_)
        · refine Tr.ret dX7_clear_99 rfl rfl ?_
          · rfl
        · exact absurd h83 (by omega)
      · refine Tr.iload_n (i := 1) dX7_clear_80 rfl rfl (Eq.refl 81) ?_
        refine Tr.bipush (v := nI 25) dX7_clear_81 (by decide +kernel) (Eq.refl 83) ?_
        refine Tr.icmp_geN (tgt := 99) dX7_clear_83 (by decide) (Eq.refl 86) (by omega) (by omega) (fun h83 => ?_) (fun h83 => ?_)
        · exact absurd h83 (by omega)
        · refine Tr.aload_n (i := 0) dX7_clear_86 rfl rfl (Eq.refl 87) ?_
          refine Tr.getf dX7_clear_87 fX7_40 rfl rfl (Eq.refl 90) ?_
          refine Tr.iload_n (i := 1) dX7_clear_90 rfl rfl (Eq.refl 91) ?_
          refine Tr.iconst (v := nI 0) dX7_clear_91 (icN 0) (Eq.refl 92) ?_
          refine Tr.iastN dX7_clear_92 rfl (by omega) (by decide) (Eq.refl 93) ?_
          refine Tr.iincN dX7_clear_93 rfl rfl rfl (Eq.refl 96) ?_
          refine Tr.goto (pc' := 80) dX7_clear_96 (by decide) ?_
          exact Tr.eqs rfl rfl (by exact congrArg (fun x => viC E ad 0 (0, 0, false, ruU, woV V, (pre (fun _ => 5) (owV V) 5), (pre (fun _ => 5) (hoV V) 5), (pre (fun _ => nI 0) (wkV V) 5), x) (nI 0, nI 0, nI 0, X.2.2.2)) (pre_s (fun _ => nI 0) (tiV V) j)) ih
    · exact absurd h48 (by omega)
  · rw [pre_sN, pre_sN, ← pre_s] at ih
    generalize pre (fun _ => 5) (owV V) j = o1 at *
    generalize pre (fun _ => 5) (hoV V) j = o2 at *
    generalize pre (fun _ => nI 0) (wkV V) j = o3 at *
    refine Tr.iload_n (i := 1) dX7_clear_46 rfl rfl (Eq.refl 47) ?_
    refine Tr.iconst (v := nI 5) dX7_clear_47 (icN 5) (Eq.refl 48) ?_
    refine Tr.icmp_geN (tgt := 78) dX7_clear_48 (by decide) (Eq.refl 51) (by omega) (by omega) (fun h48 => ?_) (fun h48 => ?_)
    · exact absurd h48 (by omega)
    · refine Tr.aload_n (i := 0) dX7_clear_51 rfl rfl (Eq.refl 52) ?_
      refine Tr.getf dX7_clear_52 fX7_28 rfl rfl (Eq.refl 55) ?_
      refine Tr.iload_n (i := 1) dX7_clear_55 rfl rfl (Eq.refl 56) ?_
      refine Tr.iconst (v := (-1)) dX7_clear_56 (by decide +kernel) (Eq.refl 57) ?_
      refine Tr.iastN dX7_clear_57 rfl (by omega) (by decide) (Eq.refl 58) ?_
      refine Tr.aload_n (i := 0) dX7_clear_58 rfl rfl (Eq.refl 59) ?_
      refine Tr.getf dX7_clear_59 fX7_34 rfl rfl (Eq.refl 62) ?_
      refine Tr.iload_n (i := 1) dX7_clear_62 rfl rfl (Eq.refl 63) ?_
      refine Tr.iconst (v := (-1)) dX7_clear_63 (by decide +kernel) (Eq.refl 64) ?_
      refine Tr.iastN dX7_clear_64 rfl (by omega) (by decide) (Eq.refl 65) ?_
      refine Tr.aload_n (i := 0) dX7_clear_65 rfl rfl (Eq.refl 66) ?_
      refine Tr.getf dX7_clear_66 fX7_37 rfl rfl (Eq.refl 69) ?_
      refine Tr.iload_n (i := 1) dX7_clear_69 rfl rfl (Eq.refl 70) ?_
      refine Tr.iconst (v := nI 0) dX7_clear_70 (icN 0) (Eq.refl 71) ?_
      refine Tr.iastN dX7_clear_71 rfl (by omega) (by decide) (Eq.refl 72) ?_
      refine Tr.iincN dX7_clear_72 rfl rfl rfl (Eq.refl 75) ?_
      refine Tr.goto (pc' := 46) dX7_clear_75 (by decide) ?_
      refine Tr.eqs rfl rfl ?_ ih
      show _ = viC E ad 0 (0, 0, false, ruU, woV V, (upN o1 j 5), (upN o2 j 5), (upd o3 j (nI 0)), (tiV V)) (nI 0, nI 0, nI 0, X.2.2.2)
      have g1 : (fun k => cl (upN o1 j 5 k)) = upd (fun k => cl (o1 k)) j (-1) := cl_upN o1 j 5
      have g2 : (fun k => cl (upN o2 j 5 k)) = upd (fun k => cl (o2 k)) j (-1) := cl_upN o2 j 5
      unfold viC
      show _ = [_, _, _, _, _, _, aI E 5 (fun k => cl (upN o1 j 5 k)), _, aI E 5 (fun k => cl (upN o2 j 5 k)), _, _]
      rw [g1, g2]
      rfl
theorem Ti_hs {T : Nat → Nat} {len : Nat} {z : Tlt len} (h : Ti z) : Ti (tlHs T z) := by
  unfold tlHs
  split
  · rename_i h5
    have q0 : (tlH0 T (nhV z.2.1) z).2.1 = z.2.1 := (rdW_s T true (adv T z)).1
    have i0 : Ti (tlH0 T (nhV z.2.1) z) := Ti_hn (rdW_i (b := true) (z := adv T z) h)
    generalize tlH0 T (nhV z.2.1) z = y0 at *
    have q1 : (tlH1 T (nhV z.2.1) y0).2.1 = y0.2.1 := (rdN_s T (nI 0) (nI 99) y0).1
    have i1 : Ti (tlH1 T (nhV z.2.1) y0) := Ti_so (rdN_i (lo := nI 0) (hi := nI 99) i0)
    generalize tlH1 T (nhV z.2.1) y0 = y1 at *
    have q2 : nhV (tlH2 T (nhV z.2.1) y1).2.1 = nhV y1.2.1 := by
      show nhV (rdN T (nI 0) (nI 20) y1).2.2.1 = _
      rw [(rdN_s T (nI 0) (nI 20) y1).1]
    have q2b : npV (tlH2 T (nhV z.2.1) y1).2.1 = npV y1.2.1 := by
      show npV (rdN T (nI 0) (nI 20) y1).2.2.1 = _
      rw [(rdN_s T (nI 0) (nI 20) y1).1]
    have i2 : Ti (tlH2 T (nhV z.2.1) y1) := Ti_wo (rdN_i (lo := nI 0) (hi := nI 20) i1)
    generalize tlH2 T (nhV z.2.1) y1 = y2 at *
    have q3 : (tlH3 T (nhV z.2.1) y2).2.1 = y2.2.1 := (rdN_s T (nI 0) (nI 100) y2).1
    have i3 : Ti (tlH3 T (nhV z.2.1) y2) := Ti_st (rdN_i (lo := nI 0) (hi := nI 100) i2)
    generalize tlH3 T (nhV z.2.1) y2 = y3 at *
    refine ⟨⟨?_, i3.1.2⟩, i3.2⟩
    show nhV y3.2.1 + 1 ≤ 5
    rw [q3, q2, q1, q0]
    omega
  · exact ⟨h.1, show (4 : Nat) < 6 from by decide⟩
theorem ho_n (T : Nat → Nat) {len : Nat} (q : Nat) (z : Tlt len) : nhV (tlHo T q z).2.1 = nhV z.2.1 ∧ npV (tlHo T q z).2.1 = npV z.2.1 ∧ (z.2.2.2.1 < 6 → (tlHo T q z).2.2.2.1 < 6) := by
  unfold tlHo
  repeat' split
  all_goals exact ⟨rfl, rfl, fun h => by first | exact h | exact (show (3 : Nat) < 6 from by decide) | exact (show (5 : Nat) < 6 from by decide) | exact (show (1 : Nat) < 6 from by decide)⟩
theorem Ti_ps {T : Nat → Nat} {len : Nat} {z : Tlt len} (h : Ti z) : Ti (tlPs T z) := by
  unfold tlPs
  split
  · rename_i h5
    have q0 : (tlP0 T (npV z.2.1) z).2.1 = z.2.1 := (rdW_s T false (adv T z)).1
    have i0 : Ti (tlP0 T (npV z.2.1) z) := Ti_pn (rdW_i (b := false) (z := adv T z) h)
    generalize tlP0 T (npV z.2.1) z = y0 at *
    have q1 : nhV (tlP1 T (npV z.2.1) y0).2.1 = nhV y0.2.1 ∧ npV (tlP1 T (npV z.2.1) y0).2.1 = npV y0.2.1 ∧ (tlP1 T (npV z.2.1) y0).2.2.2.1 < 6 := by
      unfold tlP1
      split
      · obtain ⟨o1, o2, o3⟩ := ho_n T (npV z.2.1) (adv T y0)
        exact ⟨o1, o2, o3 i0.2⟩
      · exact ⟨rfl, rfl, i0.2⟩
    generalize tlP1 T (npV z.2.1) y0 = y1 at *
    refine ⟨⟨?_, ?_⟩, q1.2.2⟩
    · show nhV y1.2.1 ≤ 5; rw [q1.1, q0]; exact h.1.1
    · show npV y1.2.1 + 1 ≤ 5; rw [q1.2.1, q0]; omega
  · exact ⟨h.1, show (4 : Nat) < 6 from by decide⟩
theorem Ti_bl {T : Nat → Nat} {len : Nat} {z : Tlt len} {k : Nat} (hk : k < 6) (h : Ti z) : Ti (blm T z k) := ⟨h.1, hk⟩
theorem Ti_adv {T : Nat → Nat} {len : Nat} {z : Tlt len} (h : Ti z) : Ti (adv T z) := h
theorem Ti_la {T : Nat → Nat} {len : Nat} {z : Tlt len} (h : Ti z) : Ti (tlLa T z) := by
  unfold tlLa
  split
  · exact Ti_bl (by decide) h
  · exact h
theorem Ti_w2 {T : Nat → Nat} {len : Nat} {z : Tlt len} (h : Ti z) : Ti (tlW2 T z) := by
  have i1 := rdP_i (T := T) h
  have i2 := rdN_i (T := T) (lo := nI 1) (hi := nI 15) i1
  unfold tlW2
  generalize rdN T (nI 1) (nI 15) (rdP T z).2 = N at *
  split
  · exact i2
  · exact i2
theorem Ti_wk {T : Nat → Nat} {len : Nat} {z : Tlt len} (h : Ti z) : Ti (tlWk T z) := by
  unfold tlWk
  apply Ti_w2
  split
  · exact Ti_bl (by decide) (Ti_adv h)
  · exact Ti_adv h
theorem Ti_ti {T : Nat → Nat} {len : Nat} {z : Tlt len} (h : Ti z) : Ti (tlTi T z) := by
  have i1 := rdP_i (T := T) (Ti_adv (T := T) h)
  have i2 : Ti (tlT1 T z) := by
    unfold tlT1
    generalize rdP T (adv T z) = R at *
    repeat' split
    all_goals first | exact i1 | exact Ti_bl (by decide) i1
  unfold tlTi
  generalize tlT1 T z = y at *
  generalize (rdP T (adv T z)).1 = r at *
  have i3 := rdP_i (T := T) i2
  have i4 := rdN_i (T := T) (lo := nI 0) (hi := nI 20) i3
  unfold tlT2
  generalize rdN T (nI 0) (nI 20) (rdP T y).2 = N at *
  split
  · exact i4
  · exact i4
theorem Ti_rux {T : Nat → Nat} {len : Nat} {c : Nat} {N : Nat × Tlt len} (h : Ti N.2) : Ti ((N.2.1, vRu N.2.2.1 (upd (ruV N.2.2.1) c (nI N.1)), N.2.2.2) : Tlt len) := h
theorem Ti_ru {T : Nat → Nat} {len : Nat} {z : Tlt len} (h : Ti z) : Ti (tlRu T z) := by
  unfold tlRu
  split
  · split
    · exact Ti_bl (by decide) h
    · exact Ti_rux (T := T) (rdN_i h)
  · exact Ti_bl (by decide) h
/-- a clause's body, its sign, its end -/
def tlB (T : Nat → Nat) {len : Nat} (z : Tlt len) : Tlt len := if wdP T len z.1.1 0 then tlHs T z else if wdP T len z.1.1 1 then tlPs T z else if wdP T len z.1.1 3 then tlTi T z else if wdP T len z.1.1 4 then tlWk T z else if wdP T len z.1.1 5 then tlLa T z else tlRu T z
def tlS (T : Nat → Nat) {len : Nat} (z : Tlt len) : Tlt len := if z.2.2.2.1 = 0 ∧ ¬ tkK T len z.1.1 = 3 then blm T z 1 else z
def tlE (T : Nat → Nat) {len : Nat} (z : Tlt len) : Tlt len := if z.2.2.2.1 = 0 then adv T (sCl z) else z
def tlCl (T : Nat → Nat) {len : Nat} (z : Tlt len) : Tlt len := tlE T (tlS T (tlB T z))
theorem Ti_B {T : Nat → Nat} {len : Nat} {z : Tlt len} (h : Ti z) : Ti (tlB T z) := by
  unfold tlB
  repeat' split
  · exact Ti_hs h
  · exact Ti_ps h
  · exact Ti_ti h
  · exact Ti_wk h
  · exact Ti_la h
  · exact Ti_ru h
theorem Ti_S {T : Nat → Nat} {len : Nat} {z : Tlt len} (h : Ti z) : Ti (tlS T z) := by
  unfold tlS
  split
  · exact Ti_bl (by decide) h
  · exact h
theorem Ti_E {T : Nat → Nat} {len : Nat} {z : Tlt len} (h : Ti z) : Ti (tlE T z) := by
  unfold tlE
  split
  · exact h
  · exact h
theorem Ti_cl {T : Nat → Nat} {len : Nat} {z : Tlt len} (h : Ti z) : Ti (tlCl T z) := Ti_E (Ti_S (Ti_B h))
set_option maxHeartbeats 4000000 in
set_option maxRecDepth 100000 in
theorem l_tellClause (E : EnvT) (ad : Nat → Nat) (len : Nat) (T : Nat → Nat) (z : Tlt len) (hl : len ≤ 900) (hT : ∀ k, k < 900 → T k < 256) (hz : Ti z) : Md E mX5_tellClause ad [.ref (ad 0)] (tlP E ad len T z) none (tlP E ad len T (tlCl T z)) := by
  have hk := tkK_lt T len z.1.1
  have hse := tkE_le T (Nat.le_of_lt_succ z.1.2)
  have hB := Ti_B (T := T) hz
  have hu : tlB T z = if wdB T (tkS T len z.1.1) (tkE T len z.1.1) (tkK T len z.1.1) 0 then tlHs T z else if wdB T (tkS T len z.1.1) (tkE T len z.1.1) (tkK T len z.1.1) 1 then tlPs T z else if wdB T (tkS T len z.1.1) (tkE T len z.1.1) (tkK T len z.1.1) 3 then tlTi T z else if wdB T (tkS T len z.1.1) (tkE T len z.1.1) (tkK T len z.1.1) 4 then tlWk T z else if wdB T (tkS T len z.1.1) (tkE T len z.1.1) (tkK T len z.1.1) 5 then tlLa T z else tlRu T z := rfl
  show Md E _ ad _ _ none (tlP E ad len T (tlE T (tlS T (tlB T z))))
  have hh := l_tellHouse E ad len T z hl hT hz
  have hp := l_tellPerson E ad len T z hl hT hz
  have ht := l_tellTie E ad len T z hl hT hz.1 hz.2
  have hw := l_tellWork E ad len T z hl hT hz.1 hz.2
  have hla := l_tellLast E ad len T z hl hT
  have hr := l_tellRule E ad len T z hl hT hz.2
  generalize tlHs T z = yh at *
  generalize tlPs T z = yp at *
  generalize tlTi T z = yt at *
  generalize tlWk T z = yw at *
  generalize tlLa T z = yl at *
  generalize tlRu T z = yr at *
  refine Md.of 0 (by decide) rfl rfl ?_
  refine Tr.aload_n (i := 0) dX5_tellClause_0 rfl rfl (Eq.refl 1) ?_
  refine Tr.getf dX5_tellClause_1 fX5_22 rfl rfl (Eq.refl 4) ?_
  refine Tr.ldcS dX5_tellClause_4 (by decide +kernel : (RX5, 41, 0) ∈ strT) (Eq.refl 6) ?_
  refine Tr.callVr (L := [1, 2]) (t_reads E _ len (tkE T len z.1.1) (tkK T len z.1.1) (tkS T len z.1.1) (tkN T len z.1.1) (tkM T len z.1.1) T 0 (by decide) hl hT hse.1 hse.2 (by omega)) dX5_tellClause_6 (kX5_43 (Nat.le_of_ble_eq_true rfl)) iX4_reads rfl rfl rfl rfl rfl rfl rfl rfl rfl (Eq.refl 9) ?_
  refine Tr.if_eqB (tgt := 19) dX5_tellClause_9 (by decide) (Eq.refl 12) (fun h9 => ?_) (fun h9 => ?_)
  · rw [if_neg (by rw [h9]; decide)] at hu
    refine Tr.aload_n (i := 0) dX5_tellClause_19 rfl rfl (Eq.refl 20) ?_
    refine Tr.getf dX5_tellClause_20 fX5_22 rfl rfl (Eq.refl 23) ?_
    refine Tr.ldcS dX5_tellClause_23 (by decide +kernel : (RX5, 50, 1) ∈ strT) (Eq.refl 25) ?_
    refine Tr.callVr (L := [1, 2]) (t_reads E _ len (tkE T len z.1.1) (tkK T len z.1.1) (tkS T len z.1.1) (tkN T len z.1.1) (tkM T len z.1.1) T 1 (by decide) hl hT hse.1 hse.2 (by omega)) dX5_tellClause_25 (kX5_43 (Nat.le_of_ble_eq_true rfl)) iX4_reads rfl rfl rfl rfl rfl rfl rfl rfl rfl (Eq.refl 28) ?_
    refine Tr.if_eqB (tgt := 38) dX5_tellClause_28 (by decide) (Eq.refl 31) (fun h28 => ?_) (fun h28 => ?_)
    · rw [if_neg (by rw [h28]; decide)] at hu
      refine Tr.aload_n (i := 0) dX5_tellClause_38 rfl rfl (Eq.refl 39) ?_
      refine Tr.getf dX5_tellClause_39 fX5_22 rfl rfl (Eq.refl 42) ?_
      refine Tr.ldcS dX5_tellClause_42 (by decide +kernel : (RX5, 55, 3) ∈ strT) (Eq.refl 44) ?_
      refine Tr.callVr (L := [1, 2]) (t_reads E _ len (tkE T len z.1.1) (tkK T len z.1.1) (tkS T len z.1.1) (tkN T len z.1.1) (tkM T len z.1.1) T 3 (by decide) hl hT hse.1 hse.2 (by omega)) dX5_tellClause_44 (kX5_43 (Nat.le_of_ble_eq_true rfl)) iX4_reads rfl rfl rfl rfl rfl rfl rfl rfl rfl (Eq.refl 47) ?_
      refine Tr.if_eqB (tgt := 57) dX5_tellClause_47 (by decide) (Eq.refl 50) (fun h47 => ?_) (fun h47 => ?_)
      · rw [if_neg (by rw [h47]; decide)] at hu
        refine Tr.aload_n (i := 0) dX5_tellClause_57 rfl rfl (Eq.refl 58) ?_
        refine Tr.getf dX5_tellClause_58 fX5_22 rfl rfl (Eq.refl 61) ?_
        refine Tr.ldcS dX5_tellClause_61 (by decide +kernel : (RX5, 60, 4) ∈ strT) (Eq.refl 63) ?_
        refine Tr.callVr (L := [1, 2]) (t_reads E _ len (tkE T len z.1.1) (tkK T len z.1.1) (tkS T len z.1.1) (tkN T len z.1.1) (tkM T len z.1.1) T 4 (by decide) hl hT hse.1 hse.2 (by omega)) dX5_tellClause_63 (kX5_43 (Nat.le_of_ble_eq_true rfl)) iX4_reads rfl rfl rfl rfl rfl rfl rfl rfl rfl (Eq.refl 66) ?_
        refine Tr.if_eqB (tgt := 76) dX5_tellClause_66 (by decide) (Eq.refl 69) (fun h66 => ?_) (fun h66 => ?_)
        · rw [if_neg (by rw [h66]; decide)] at hu
          refine Tr.aload_n (i := 0) dX5_tellClause_76 rfl rfl (Eq.refl 77) ?_
          refine Tr.getf dX5_tellClause_77 fX5_22 rfl rfl (Eq.refl 80) ?_
          refine Tr.ldcS dX5_tellClause_80 (by decide +kernel : (RX5, 65, 5) ∈ strT) (Eq.refl 82) ?_
          refine Tr.callVr (L := [1, 2]) (t_reads E _ len (tkE T len z.1.1) (tkK T len z.1.1) (tkS T len z.1.1) (tkN T len z.1.1) (tkM T len z.1.1) T 5 (by decide) hl hT hse.1 hse.2 (by omega)) dX5_tellClause_82 (kX5_43 (Nat.le_of_ble_eq_true rfl)) iX4_reads rfl rfl rfl rfl rfl rfl rfl rfl rfl (Eq.refl 85) ?_
          refine Tr.if_eqB (tgt := 95) dX5_tellClause_85 (by decide) (Eq.refl 88) (fun h85 => ?_) (fun h85 => ?_)
          · rw [if_neg (by rw [h85]; decide)] at hu
            refine Tr.aload_n (i := 0) dX5_tellClause_95 rfl rfl (Eq.refl 96) ?_
            refine Tr.callVs (hr) dX5_tellClause_96 (kX5_70 (Nat.le_of_ble_eq_true rfl)) iX5_tellRule rfl rfl rfl rfl rfl (tlP_le) rfl rfl (Eq.refl 99) ?_
            skip
            rw [← hu]
            clear hu hh hp ht hw hla hr
            generalize tlB T z = y at *
            have ky := tkK_lt T len y.1.1
            have i1 := hB.2
            have eS : tlS T y = if y.2.2.2.1 = 0 ∧ ¬ tkK T len y.1.1 = 3 then blm T y 1 else y := rfl
            have hy2 := Ti_S (T := T) hB
            refine Tr.aload_n (i := 0) dX5_tellClause_99 rfl rfl (Eq.refl 100) ?_
            refine Tr.getf dX5_tellClause_100 fX5_26 rfl rfl (Eq.refl 103) ?_
            refine Tr.if_ne (tgt := 122) dX5_tellClause_103 (by decide) (Eq.refl 106) (fun h103 => ?_) (fun h103 => ?_)
            · rw [if_neg (fun z9 => h103 (show nI y.2.2.2.1 = 0 by rw [z9.1]; rfl))] at eS
              obtain ⟨y2, hy2e⟩ : ∃ y2, y2 = tlS T y := ⟨_, rfl⟩
              rw [← hy2e] at hy2 ⊢
              refine Tr.pic (w' := tlP E ad len T y2) (by rw [hy2e, eS]) ?_
              clear eS hy2e
              have eE : tlE T y2 = if y2.2.2.2.1 = 0 then (nxP T len y2.1, y2.2.1, (y2.2.2.1.1 + nI 1, y2.2.2.1.2), y2.2.2.2) else y2 := rfl
              have i2 := hy2.2
              refine Tr.aload_n (i := 0) dX5_tellClause_122 rfl rfl (Eq.refl 123) ?_
              refine Tr.getf dX5_tellClause_123 fX5_26 rfl rfl (Eq.refl 126) ?_
              refine Tr.if_ne (tgt := 149) dX5_tellClause_126 (by decide) (Eq.refl 129) (fun h126 => ?_) (fun h126 => ?_)
              · rw [if_neg (fun z9 => h126 (show nI y2.2.2.2.1 = 0 by rw [z9]; rfl))] at eE
                rw [eE]
                refine Tr.ret dX5_tellClause_149 rfl rfl ?_
                · rfl
              · rw [if_pos ((nI_eq_iff (b := 0) (by omega) (by decide)).mp h126)] at eE
                rw [eE]
                refine Tr.aload_n (i := 0) dX5_tellClause_129 rfl rfl (Eq.refl 130) ?_
                refine Tr.getf dX5_tellClause_130 fX5_12 rfl rfl (Eq.refl 133) ?_
                refine Tr.dup dX5_tellClause_133 rfl (Eq.refl 134) ?_
                refine Tr.getf dX5_tellClause_134 fX5_77 rfl rfl (Eq.refl 137) ?_
                refine Tr.iconst (v := nI 1) dX5_tellClause_137 (icN 1) (Eq.refl 138) ?_
                refine Tr.iadd dX5_tellClause_138 (Eq.refl 139) ?_
                refine Tr.putf dX5_tellClause_139 pX5_77 rfl (rfl) (rfl) rfl (Eq.refl 142) ?_
                refine Tr.pic (w' := tlP E ad len T (sCl y2)) rfl ?_
                refine Tr.aload_n (i := 0) dX5_tellClause_142 rfl rfl (Eq.refl 143) ?_
                refine Tr.getf dX5_tellClause_143 fX5_22 rfl rfl (Eq.refl 146) ?_
                refine Tr.callV (L := [1, 2]) (t_readToken E _ len (tkE T len y2.1.1) (tkK T len y2.1.1) (tkS T len y2.1.1) (tkN T len y2.1.1) (tkM T len y2.1.1) T hl hT (tkE_le T (Nat.le_of_lt_succ y2.1.2)).2) dX5_tellClause_146 (kX5_80 (Nat.le_of_ble_eq_true rfl)) iX4_readToken rfl rfl rfl rfl rfl rfl rfl rfl rfl rfl (Eq.refl 149) ?_
                refine Tr.pic (w' := tlP E ad len T (nxP T len y2.1, y2.2.1, (y2.2.2.1.1 + nI 1, y2.2.2.1.2), y2.2.2.2)) (putB_eq (Lc := [0, 3, 4, 5, 6, 7, 8, 9, 10, 11, 12, 13]) 14 rfl rfl rfl rfl ⟨⟨_, rfl, rfl⟩, ⟨_, rfl, rfl⟩, ⟨_, rfl, rfl⟩, ⟨_, rfl, rfl⟩, ⟨_, rfl, rfl⟩, ⟨_, rfl, rfl⟩, ⟨_, rfl, rfl⟩, ⟨_, rfl, rfl⟩, ⟨_, rfl, rfl⟩, ⟨_, rfl, rfl⟩, ⟨_, rfl, rfl⟩, ⟨_, rfl, rfl⟩, trivial⟩ (by decide) rfl) ?_
                refine Tr.ret dX5_tellClause_149 rfl rfl ?_
                · rfl
            · have h103 : y.2.2.2.1 = 0 := (nI_eq_iff (b := 0) (by omega) (by decide)).mp h103
              refine Tr.aload_n (i := 0) dX5_tellClause_106 rfl rfl (Eq.refl 107) ?_
              refine Tr.getf dX5_tellClause_107 fX5_22 rfl rfl (Eq.refl 110) ?_
              refine Tr.getf dX5_tellClause_110 fX5_37 rfl rfl (Eq.refl 113) ?_
              refine Tr.iconst (v := nI 3) dX5_tellClause_113 (icN 3) (Eq.refl 114) ?_
              refine Tr.icmp_eqN (tgt := 122) dX5_tellClause_114 (by decide) (Eq.refl 117) (by omega) (by omega) (fun h114 => ?_) (fun h114 => ?_)
              · rw [if_neg (fun z9 => z9.2 h114)] at eS
                obtain ⟨y2, hy2e⟩ : ∃ y2, y2 = tlS T y := ⟨_, rfl⟩
                rw [← hy2e] at hy2 ⊢
                refine Tr.pic (w' := tlP E ad len T y2) (by rw [hy2e, eS]) ?_
                clear eS hy2e
                have eE : tlE T y2 = if y2.2.2.2.1 = 0 then (nxP T len y2.1, y2.2.1, (y2.2.2.1.1 + nI 1, y2.2.2.1.2), y2.2.2.2) else y2 := rfl
                have i2 := hy2.2
                refine Tr.aload_n (i := 0) dX5_tellClause_122 rfl rfl (Eq.refl 123) ?_
                refine Tr.getf dX5_tellClause_123 fX5_26 rfl rfl (Eq.refl 126) ?_
                refine Tr.if_ne (tgt := 149) dX5_tellClause_126 (by decide) (Eq.refl 129) (fun h126 => ?_) (fun h126 => ?_)
                · rw [if_neg (fun z9 => h126 (show nI y2.2.2.2.1 = 0 by rw [z9]; rfl))] at eE
                  rw [eE]
                  refine Tr.ret dX5_tellClause_149 rfl rfl ?_
                  · rfl
                · rw [if_pos ((nI_eq_iff (b := 0) (by omega) (by decide)).mp h126)] at eE
                  rw [eE]
                  refine Tr.aload_n (i := 0) dX5_tellClause_129 rfl rfl (Eq.refl 130) ?_
                  refine Tr.getf dX5_tellClause_130 fX5_12 rfl rfl (Eq.refl 133) ?_
                  refine Tr.dup dX5_tellClause_133 rfl (Eq.refl 134) ?_
                  refine Tr.getf dX5_tellClause_134 fX5_77 rfl rfl (Eq.refl 137) ?_
                  refine Tr.iconst (v := nI 1) dX5_tellClause_137 (icN 1) (Eq.refl 138) ?_
                  refine Tr.iadd dX5_tellClause_138 (Eq.refl 139) ?_
                  refine Tr.putf dX5_tellClause_139 pX5_77 rfl (rfl) (rfl) rfl (Eq.refl 142) ?_
                  refine Tr.pic (w' := tlP E ad len T (sCl y2)) rfl ?_
                  refine Tr.aload_n (i := 0) dX5_tellClause_142 rfl rfl (Eq.refl 143) ?_
                  refine Tr.getf dX5_tellClause_143 fX5_22 rfl rfl (Eq.refl 146) ?_
                  refine Tr.callV (L := [1, 2]) (t_readToken E _ len (tkE T len y2.1.1) (tkK T len y2.1.1) (tkS T len y2.1.1) (tkN T len y2.1.1) (tkM T len y2.1.1) T hl hT (tkE_le T (Nat.le_of_lt_succ y2.1.2)).2) dX5_tellClause_146 (kX5_80 (Nat.le_of_ble_eq_true rfl)) iX4_readToken rfl rfl rfl rfl rfl rfl rfl rfl rfl rfl (Eq.refl 149) ?_
                  refine Tr.pic (w' := tlP E ad len T (nxP T len y2.1, y2.2.1, (y2.2.2.1.1 + nI 1, y2.2.2.1.2), y2.2.2.2)) (putB_eq (Lc := [0, 3, 4, 5, 6, 7, 8, 9, 10, 11, 12, 13]) 14 rfl rfl rfl rfl ⟨⟨_, rfl, rfl⟩, ⟨_, rfl, rfl⟩, ⟨_, rfl, rfl⟩, ⟨_, rfl, rfl⟩, ⟨_, rfl, rfl⟩, ⟨_, rfl, rfl⟩, ⟨_, rfl, rfl⟩, ⟨_, rfl, rfl⟩, ⟨_, rfl, rfl⟩, ⟨_, rfl, rfl⟩, ⟨_, rfl, rfl⟩, ⟨_, rfl, rfl⟩, trivial⟩ (by decide) rfl) ?_
                  refine Tr.ret dX5_tellClause_149 rfl rfl ?_
                  · rfl
              · rw [if_pos ⟨h103, h114⟩] at eS
                refine Tr.aload_n (i := 0) dX5_tellClause_117 rfl rfl (Eq.refl 118) ?_
                refine Tr.iconst (v := nI 1) dX5_tellClause_118 (icN 1) (Eq.refl 119) ?_
                refine Tr.callVs ((show Md E _ ad _ (tlP E ad len T y) none (tlP E ad len T (blm T y 1)) from l_blame E ad len T y.1 y.2.1 y.2.2.1 y.2.2.2.1 y.2.2.2.2 1)) dX5_tellClause_119 (kX5_73 (Nat.le_of_ble_eq_true rfl)) iX5_blame rfl rfl rfl rfl rfl (tlP_le) rfl rfl (Eq.refl 122) ?_
                obtain ⟨y2, hy2e⟩ : ∃ y2, y2 = tlS T y := ⟨_, rfl⟩
                rw [← hy2e] at hy2 ⊢
                refine Tr.pic (w' := tlP E ad len T y2) (by rw [hy2e, eS]) ?_
                clear eS hy2e
                have eE : tlE T y2 = if y2.2.2.2.1 = 0 then (nxP T len y2.1, y2.2.1, (y2.2.2.1.1 + nI 1, y2.2.2.1.2), y2.2.2.2) else y2 := rfl
                have i2 := hy2.2
                refine Tr.aload_n (i := 0) dX5_tellClause_122 rfl rfl (Eq.refl 123) ?_
                refine Tr.getf dX5_tellClause_123 fX5_26 rfl rfl (Eq.refl 126) ?_
                refine Tr.if_ne (tgt := 149) dX5_tellClause_126 (by decide) (Eq.refl 129) (fun h126 => ?_) (fun h126 => ?_)
                · rw [if_neg (fun z9 => h126 (show nI y2.2.2.2.1 = 0 by rw [z9]; rfl))] at eE
                  rw [eE]
                  refine Tr.ret dX5_tellClause_149 rfl rfl ?_
                  · rfl
                · rw [if_pos ((nI_eq_iff (b := 0) (by omega) (by decide)).mp h126)] at eE
                  rw [eE]
                  refine Tr.aload_n (i := 0) dX5_tellClause_129 rfl rfl (Eq.refl 130) ?_
                  refine Tr.getf dX5_tellClause_130 fX5_12 rfl rfl (Eq.refl 133) ?_
                  refine Tr.dup dX5_tellClause_133 rfl (Eq.refl 134) ?_
                  refine Tr.getf dX5_tellClause_134 fX5_77 rfl rfl (Eq.refl 137) ?_
                  refine Tr.iconst (v := nI 1) dX5_tellClause_137 (icN 1) (Eq.refl 138) ?_
                  refine Tr.iadd dX5_tellClause_138 (Eq.refl 139) ?_
                  refine Tr.putf dX5_tellClause_139 pX5_77 rfl (rfl) (rfl) rfl (Eq.refl 142) ?_
                  refine Tr.pic (w' := tlP E ad len T (sCl y2)) rfl ?_
                  refine Tr.aload_n (i := 0) dX5_tellClause_142 rfl rfl (Eq.refl 143) ?_
                  refine Tr.getf dX5_tellClause_143 fX5_22 rfl rfl (Eq.refl 146) ?_
                  refine Tr.callV (L := [1, 2]) (t_readToken E _ len (tkE T len y2.1.1) (tkK T len y2.1.1) (tkS T len y2.1.1) (tkN T len y2.1.1) (tkM T len y2.1.1) T hl hT (tkE_le T (Nat.le_of_lt_succ y2.1.2)).2) dX5_tellClause_146 (kX5_80 (Nat.le_of_ble_eq_true rfl)) iX4_readToken rfl rfl rfl rfl rfl rfl rfl rfl rfl rfl (Eq.refl 149) ?_
                  refine Tr.pic (w' := tlP E ad len T (nxP T len y2.1, y2.2.1, (y2.2.2.1.1 + nI 1, y2.2.2.1.2), y2.2.2.2)) (putB_eq (Lc := [0, 3, 4, 5, 6, 7, 8, 9, 10, 11, 12, 13]) 14 rfl rfl rfl rfl ⟨⟨_, rfl, rfl⟩, ⟨_, rfl, rfl⟩, ⟨_, rfl, rfl⟩, ⟨_, rfl, rfl⟩, ⟨_, rfl, rfl⟩, ⟨_, rfl, rfl⟩, ⟨_, rfl, rfl⟩, ⟨_, rfl, rfl⟩, ⟨_, rfl, rfl⟩, ⟨_, rfl, rfl⟩, ⟨_, rfl, rfl⟩, ⟨_, rfl, rfl⟩, trivial⟩ (by decide) rfl) ?_
                  refine Tr.ret dX5_tellClause_149 rfl rfl ?_
                  · rfl
          · rw [if_pos h85] at hu
            refine Tr.aload_n (i := 0) dX5_tellClause_88 rfl rfl (Eq.refl 89) ?_
            refine Tr.callVs (hla) dX5_tellClause_89 (kX5_67 (Nat.le_of_ble_eq_true rfl)) iX5_tellLast rfl rfl rfl rfl rfl (tlP_le) rfl rfl (Eq.refl 92) ?_
            refine Tr.goto (pc' := 99) dX5_tellClause_92 (by decide) ?_
            skip
            rw [← hu]
            clear hu hh hp ht hw hla hr
            generalize tlB T z = y at *
            have ky := tkK_lt T len y.1.1
            have i1 := hB.2
            have eS : tlS T y = if y.2.2.2.1 = 0 ∧ ¬ tkK T len y.1.1 = 3 then blm T y 1 else y := rfl
            have hy2 := Ti_S (T := T) hB
            refine Tr.aload_n (i := 0) dX5_tellClause_99 rfl rfl (Eq.refl 100) ?_
            refine Tr.getf dX5_tellClause_100 fX5_26 rfl rfl (Eq.refl 103) ?_
            refine Tr.if_ne (tgt := 122) dX5_tellClause_103 (by decide) (Eq.refl 106) (fun h103 => ?_) (fun h103 => ?_)
            · rw [if_neg (fun z9 => h103 (show nI y.2.2.2.1 = 0 by rw [z9.1]; rfl))] at eS
              obtain ⟨y2, hy2e⟩ : ∃ y2, y2 = tlS T y := ⟨_, rfl⟩
              rw [← hy2e] at hy2 ⊢
              refine Tr.pic (w' := tlP E ad len T y2) (by rw [hy2e, eS]) ?_
              clear eS hy2e
              have eE : tlE T y2 = if y2.2.2.2.1 = 0 then (nxP T len y2.1, y2.2.1, (y2.2.2.1.1 + nI 1, y2.2.2.1.2), y2.2.2.2) else y2 := rfl
              have i2 := hy2.2
              refine Tr.aload_n (i := 0) dX5_tellClause_122 rfl rfl (Eq.refl 123) ?_
              refine Tr.getf dX5_tellClause_123 fX5_26 rfl rfl (Eq.refl 126) ?_
              refine Tr.if_ne (tgt := 149) dX5_tellClause_126 (by decide) (Eq.refl 129) (fun h126 => ?_) (fun h126 => ?_)
              · rw [if_neg (fun z9 => h126 (show nI y2.2.2.2.1 = 0 by rw [z9]; rfl))] at eE
                rw [eE]
                refine Tr.ret dX5_tellClause_149 rfl rfl ?_
                · rfl
              · rw [if_pos ((nI_eq_iff (b := 0) (by omega) (by decide)).mp h126)] at eE
                rw [eE]
                refine Tr.aload_n (i := 0) dX5_tellClause_129 rfl rfl (Eq.refl 130) ?_
                refine Tr.getf dX5_tellClause_130 fX5_12 rfl rfl (Eq.refl 133) ?_
                refine Tr.dup dX5_tellClause_133 rfl (Eq.refl 134) ?_
                refine Tr.getf dX5_tellClause_134 fX5_77 rfl rfl (Eq.refl 137) ?_
                refine Tr.iconst (v := nI 1) dX5_tellClause_137 (icN 1) (Eq.refl 138) ?_
                refine Tr.iadd dX5_tellClause_138 (Eq.refl 139) ?_
                refine Tr.putf dX5_tellClause_139 pX5_77 rfl (rfl) (rfl) rfl (Eq.refl 142) ?_
                refine Tr.pic (w' := tlP E ad len T (sCl y2)) rfl ?_
                refine Tr.aload_n (i := 0) dX5_tellClause_142 rfl rfl (Eq.refl 143) ?_
                refine Tr.getf dX5_tellClause_143 fX5_22 rfl rfl (Eq.refl 146) ?_
                refine Tr.callV (L := [1, 2]) (t_readToken E _ len (tkE T len y2.1.1) (tkK T len y2.1.1) (tkS T len y2.1.1) (tkN T len y2.1.1) (tkM T len y2.1.1) T hl hT (tkE_le T (Nat.le_of_lt_succ y2.1.2)).2) dX5_tellClause_146 (kX5_80 (Nat.le_of_ble_eq_true rfl)) iX4_readToken rfl rfl rfl rfl rfl rfl rfl rfl rfl rfl (Eq.refl 149) ?_
                refine Tr.pic (w' := tlP E ad len T (nxP T len y2.1, y2.2.1, (y2.2.2.1.1 + nI 1, y2.2.2.1.2), y2.2.2.2)) (putB_eq (Lc := [0, 3, 4, 5, 6, 7, 8, 9, 10, 11, 12, 13]) 14 rfl rfl rfl rfl ⟨⟨_, rfl, rfl⟩, ⟨_, rfl, rfl⟩, ⟨_, rfl, rfl⟩, ⟨_, rfl, rfl⟩, ⟨_, rfl, rfl⟩, ⟨_, rfl, rfl⟩, ⟨_, rfl, rfl⟩, ⟨_, rfl, rfl⟩, ⟨_, rfl, rfl⟩, ⟨_, rfl, rfl⟩, ⟨_, rfl, rfl⟩, ⟨_, rfl, rfl⟩, trivial⟩ (by decide) rfl) ?_
                refine Tr.ret dX5_tellClause_149 rfl rfl ?_
                · rfl
            · have h103 : y.2.2.2.1 = 0 := (nI_eq_iff (b := 0) (by omega) (by decide)).mp h103
              refine Tr.aload_n (i := 0) dX5_tellClause_106 rfl rfl (Eq.refl 107) ?_
              refine Tr.getf dX5_tellClause_107 fX5_22 rfl rfl (Eq.refl 110) ?_
              refine Tr.getf dX5_tellClause_110 fX5_37 rfl rfl (Eq.refl 113) ?_
              refine Tr.iconst (v := nI 3) dX5_tellClause_113 (icN 3) (Eq.refl 114) ?_
              refine Tr.icmp_eqN (tgt := 122) dX5_tellClause_114 (by decide) (Eq.refl 117) (by omega) (by omega) (fun h114 => ?_) (fun h114 => ?_)
              · rw [if_neg (fun z9 => z9.2 h114)] at eS
                obtain ⟨y2, hy2e⟩ : ∃ y2, y2 = tlS T y := ⟨_, rfl⟩
                rw [← hy2e] at hy2 ⊢
                refine Tr.pic (w' := tlP E ad len T y2) (by rw [hy2e, eS]) ?_
                clear eS hy2e
                have eE : tlE T y2 = if y2.2.2.2.1 = 0 then (nxP T len y2.1, y2.2.1, (y2.2.2.1.1 + nI 1, y2.2.2.1.2), y2.2.2.2) else y2 := rfl
                have i2 := hy2.2
                refine Tr.aload_n (i := 0) dX5_tellClause_122 rfl rfl (Eq.refl 123) ?_
                refine Tr.getf dX5_tellClause_123 fX5_26 rfl rfl (Eq.refl 126) ?_
                refine Tr.if_ne (tgt := 149) dX5_tellClause_126 (by decide) (Eq.refl 129) (fun h126 => ?_) (fun h126 => ?_)
                · rw [if_neg (fun z9 => h126 (show nI y2.2.2.2.1 = 0 by rw [z9]; rfl))] at eE
                  rw [eE]
                  refine Tr.ret dX5_tellClause_149 rfl rfl ?_
                  · rfl
                · rw [if_pos ((nI_eq_iff (b := 0) (by omega) (by decide)).mp h126)] at eE
                  rw [eE]
                  refine Tr.aload_n (i := 0) dX5_tellClause_129 rfl rfl (Eq.refl 130) ?_
                  refine Tr.getf dX5_tellClause_130 fX5_12 rfl rfl (Eq.refl 133) ?_
                  refine Tr.dup dX5_tellClause_133 rfl (Eq.refl 134) ?_
                  refine Tr.getf dX5_tellClause_134 fX5_77 rfl rfl (Eq.refl 137) ?_
                  refine Tr.iconst (v := nI 1) dX5_tellClause_137 (icN 1) (Eq.refl 138) ?_
                  refine Tr.iadd dX5_tellClause_138 (Eq.refl 139) ?_
                  refine Tr.putf dX5_tellClause_139 pX5_77 rfl (rfl) (rfl) rfl (Eq.refl 142) ?_
                  refine Tr.pic (w' := tlP E ad len T (sCl y2)) rfl ?_
                  refine Tr.aload_n (i := 0) dX5_tellClause_142 rfl rfl (Eq.refl 143) ?_
                  refine Tr.getf dX5_tellClause_143 fX5_22 rfl rfl (Eq.refl 146) ?_
                  refine Tr.callV (L := [1, 2]) (t_readToken E _ len (tkE T len y2.1.1) (tkK T len y2.1.1) (tkS T len y2.1.1) (tkN T len y2.1.1) (tkM T len y2.1.1) T hl hT (tkE_le T (Nat.le_of_lt_succ y2.1.2)).2) dX5_tellClause_146 (kX5_80 (Nat.le_of_ble_eq_true rfl)) iX4_readToken rfl rfl rfl rfl rfl rfl rfl rfl rfl rfl (Eq.refl 149) ?_
                  refine Tr.pic (w' := tlP E ad len T (nxP T len y2.1, y2.2.1, (y2.2.2.1.1 + nI 1, y2.2.2.1.2), y2.2.2.2)) (putB_eq (Lc := [0, 3, 4, 5, 6, 7, 8, 9, 10, 11, 12, 13]) 14 rfl rfl rfl rfl ⟨⟨_, rfl, rfl⟩, ⟨_, rfl, rfl⟩, ⟨_, rfl, rfl⟩, ⟨_, rfl, rfl⟩, ⟨_, rfl, rfl⟩, ⟨_, rfl, rfl⟩, ⟨_, rfl, rfl⟩, ⟨_, rfl, rfl⟩, ⟨_, rfl, rfl⟩, ⟨_, rfl, rfl⟩, ⟨_, rfl, rfl⟩, ⟨_, rfl, rfl⟩, trivial⟩ (by decide) rfl) ?_
                  refine Tr.ret dX5_tellClause_149 rfl rfl ?_
                  · rfl
              · rw [if_pos ⟨h103, h114⟩] at eS
                refine Tr.aload_n (i := 0) dX5_tellClause_117 rfl rfl (Eq.refl 118) ?_
                refine Tr.iconst (v := nI 1) dX5_tellClause_118 (icN 1) (Eq.refl 119) ?_
                refine Tr.callVs ((show Md E _ ad _ (tlP E ad len T y) none (tlP E ad len T (blm T y 1)) from l_blame E ad len T y.1 y.2.1 y.2.2.1 y.2.2.2.1 y.2.2.2.2 1)) dX5_tellClause_119 (kX5_73 (Nat.le_of_ble_eq_true rfl)) iX5_blame rfl rfl rfl rfl rfl (tlP_le) rfl rfl (Eq.refl 122) ?_
                obtain ⟨y2, hy2e⟩ : ∃ y2, y2 = tlS T y := ⟨_, rfl⟩
                rw [← hy2e] at hy2 ⊢
                refine Tr.pic (w' := tlP E ad len T y2) (by rw [hy2e, eS]) ?_
                clear eS hy2e
                have eE : tlE T y2 = if y2.2.2.2.1 = 0 then (nxP T len y2.1, y2.2.1, (y2.2.2.1.1 + nI 1, y2.2.2.1.2), y2.2.2.2) else y2 := rfl
                have i2 := hy2.2
                refine Tr.aload_n (i := 0) dX5_tellClause_122 rfl rfl (Eq.refl 123) ?_
                refine Tr.getf dX5_tellClause_123 fX5_26 rfl rfl (Eq.refl 126) ?_
                refine Tr.if_ne (tgt := 149) dX5_tellClause_126 (by decide) (Eq.refl 129) (fun h126 => ?_) (fun h126 => ?_)
                · rw [if_neg (fun z9 => h126 (show nI y2.2.2.2.1 = 0 by rw [z9]; rfl))] at eE
                  rw [eE]
                  refine Tr.ret dX5_tellClause_149 rfl rfl ?_
                  · rfl
                · rw [if_pos ((nI_eq_iff (b := 0) (by omega) (by decide)).mp h126)] at eE
                  rw [eE]
                  refine Tr.aload_n (i := 0) dX5_tellClause_129 rfl rfl (Eq.refl 130) ?_
                  refine Tr.getf dX5_tellClause_130 fX5_12 rfl rfl (Eq.refl 133) ?_
                  refine Tr.dup dX5_tellClause_133 rfl (Eq.refl 134) ?_
                  refine Tr.getf dX5_tellClause_134 fX5_77 rfl rfl (Eq.refl 137) ?_
                  refine Tr.iconst (v := nI 1) dX5_tellClause_137 (icN 1) (Eq.refl 138) ?_
                  refine Tr.iadd dX5_tellClause_138 (Eq.refl 139) ?_
                  refine Tr.putf dX5_tellClause_139 pX5_77 rfl (rfl) (rfl) rfl (Eq.refl 142) ?_
                  refine Tr.pic (w' := tlP E ad len T (sCl y2)) rfl ?_
                  refine Tr.aload_n (i := 0) dX5_tellClause_142 rfl rfl (Eq.refl 143) ?_
                  refine Tr.getf dX5_tellClause_143 fX5_22 rfl rfl (Eq.refl 146) ?_
                  refine Tr.callV (L := [1, 2]) (t_readToken E _ len (tkE T len y2.1.1) (tkK T len y2.1.1) (tkS T len y2.1.1) (tkN T len y2.1.1) (tkM T len y2.1.1) T hl hT (tkE_le T (Nat.le_of_lt_succ y2.1.2)).2) dX5_tellClause_146 (kX5_80 (Nat.le_of_ble_eq_true rfl)) iX4_readToken rfl rfl rfl rfl rfl rfl rfl rfl rfl rfl (Eq.refl 149) ?_
                  refine Tr.pic (w' := tlP E ad len T (nxP T len y2.1, y2.2.1, (y2.2.2.1.1 + nI 1, y2.2.2.1.2), y2.2.2.2)) (putB_eq (Lc := [0, 3, 4, 5, 6, 7, 8, 9, 10, 11, 12, 13]) 14 rfl rfl rfl rfl ⟨⟨_, rfl, rfl⟩, ⟨_, rfl, rfl⟩, ⟨_, rfl, rfl⟩, ⟨_, rfl, rfl⟩, ⟨_, rfl, rfl⟩, ⟨_, rfl, rfl⟩, ⟨_, rfl, rfl⟩, ⟨_, rfl, rfl⟩, ⟨_, rfl, rfl⟩, ⟨_, rfl, rfl⟩, ⟨_, rfl, rfl⟩, ⟨_, rfl, rfl⟩, trivial⟩ (by decide) rfl) ?_
                  refine Tr.ret dX5_tellClause_149 rfl rfl ?_
                  · rfl
        · rw [if_pos h66] at hu
          refine Tr.aload_n (i := 0) dX5_tellClause_69 rfl rfl (Eq.refl 70) ?_
          refine Tr.callVs (hw) dX5_tellClause_70 (kX5_62 (Nat.le_of_ble_eq_true rfl)) iX5_tellWork rfl rfl rfl rfl rfl (tlP_le) rfl rfl (Eq.refl 73) ?_
          refine Tr.goto (pc' := 99) dX5_tellClause_73 (by decide) ?_
          skip
          rw [← hu]
          clear hu hh hp ht hw hla hr
          generalize tlB T z = y at *
          have ky := tkK_lt T len y.1.1
          have i1 := hB.2
          have eS : tlS T y = if y.2.2.2.1 = 0 ∧ ¬ tkK T len y.1.1 = 3 then blm T y 1 else y := rfl
          have hy2 := Ti_S (T := T) hB
          refine Tr.aload_n (i := 0) dX5_tellClause_99 rfl rfl (Eq.refl 100) ?_
          refine Tr.getf dX5_tellClause_100 fX5_26 rfl rfl (Eq.refl 103) ?_
          refine Tr.if_ne (tgt := 122) dX5_tellClause_103 (by decide) (Eq.refl 106) (fun h103 => ?_) (fun h103 => ?_)
          · rw [if_neg (fun z9 => h103 (show nI y.2.2.2.1 = 0 by rw [z9.1]; rfl))] at eS
            obtain ⟨y2, hy2e⟩ : ∃ y2, y2 = tlS T y := ⟨_, rfl⟩
            rw [← hy2e] at hy2 ⊢
            refine Tr.pic (w' := tlP E ad len T y2) (by rw [hy2e, eS]) ?_
            clear eS hy2e
            have eE : tlE T y2 = if y2.2.2.2.1 = 0 then (nxP T len y2.1, y2.2.1, (y2.2.2.1.1 + nI 1, y2.2.2.1.2), y2.2.2.2) else y2 := rfl
            have i2 := hy2.2
            refine Tr.aload_n (i := 0) dX5_tellClause_122 rfl rfl (Eq.refl 123) ?_
            refine Tr.getf dX5_tellClause_123 fX5_26 rfl rfl (Eq.refl 126) ?_
            refine Tr.if_ne (tgt := 149) dX5_tellClause_126 (by decide) (Eq.refl 129) (fun h126 => ?_) (fun h126 => ?_)
            · rw [if_neg (fun z9 => h126 (show nI y2.2.2.2.1 = 0 by rw [z9]; rfl))] at eE
              rw [eE]
              refine Tr.ret dX5_tellClause_149 rfl rfl ?_
              · rfl
            · rw [if_pos ((nI_eq_iff (b := 0) (by omega) (by decide)).mp h126)] at eE
              rw [eE]
              refine Tr.aload_n (i := 0) dX5_tellClause_129 rfl rfl (Eq.refl 130) ?_
              refine Tr.getf dX5_tellClause_130 fX5_12 rfl rfl (Eq.refl 133) ?_
              refine Tr.dup dX5_tellClause_133 rfl (Eq.refl 134) ?_
              refine Tr.getf dX5_tellClause_134 fX5_77 rfl rfl (Eq.refl 137) ?_
              refine Tr.iconst (v := nI 1) dX5_tellClause_137 (icN 1) (Eq.refl 138) ?_
              refine Tr.iadd dX5_tellClause_138 (Eq.refl 139) ?_
              refine Tr.putf dX5_tellClause_139 pX5_77 rfl (rfl) (rfl) rfl (Eq.refl 142) ?_
              refine Tr.pic (w' := tlP E ad len T (sCl y2)) rfl ?_
              refine Tr.aload_n (i := 0) dX5_tellClause_142 rfl rfl (Eq.refl 143) ?_
              refine Tr.getf dX5_tellClause_143 fX5_22 rfl rfl (Eq.refl 146) ?_
              refine Tr.callV (L := [1, 2]) (t_readToken E _ len (tkE T len y2.1.1) (tkK T len y2.1.1) (tkS T len y2.1.1) (tkN T len y2.1.1) (tkM T len y2.1.1) T hl hT (tkE_le T (Nat.le_of_lt_succ y2.1.2)).2) dX5_tellClause_146 (kX5_80 (Nat.le_of_ble_eq_true rfl)) iX4_readToken rfl rfl rfl rfl rfl rfl rfl rfl rfl rfl (Eq.refl 149) ?_
              refine Tr.pic (w' := tlP E ad len T (nxP T len y2.1, y2.2.1, (y2.2.2.1.1 + nI 1, y2.2.2.1.2), y2.2.2.2)) (putB_eq (Lc := [0, 3, 4, 5, 6, 7, 8, 9, 10, 11, 12, 13]) 14 rfl rfl rfl rfl ⟨⟨_, rfl, rfl⟩, ⟨_, rfl, rfl⟩, ⟨_, rfl, rfl⟩, ⟨_, rfl, rfl⟩, ⟨_, rfl, rfl⟩, ⟨_, rfl, rfl⟩, ⟨_, rfl, rfl⟩, ⟨_, rfl, rfl⟩, ⟨_, rfl, rfl⟩, ⟨_, rfl, rfl⟩, ⟨_, rfl, rfl⟩, ⟨_, rfl, rfl⟩, trivial⟩ (by decide) rfl) ?_
              refine Tr.ret dX5_tellClause_149 rfl rfl ?_
              · rfl
          · have h103 : y.2.2.2.1 = 0 := (nI_eq_iff (b := 0) (by omega) (by decide)).mp h103
            refine Tr.aload_n (i := 0) dX5_tellClause_106 rfl rfl (Eq.refl 107) ?_
            refine Tr.getf dX5_tellClause_107 fX5_22 rfl rfl (Eq.refl 110) ?_
            refine Tr.getf dX5_tellClause_110 fX5_37 rfl rfl (Eq.refl 113) ?_
            refine Tr.iconst (v := nI 3) dX5_tellClause_113 (icN 3) (Eq.refl 114) ?_
            refine Tr.icmp_eqN (tgt := 122) dX5_tellClause_114 (by decide) (Eq.refl 117) (by omega) (by omega) (fun h114 => ?_) (fun h114 => ?_)
            · rw [if_neg (fun z9 => z9.2 h114)] at eS
              obtain ⟨y2, hy2e⟩ : ∃ y2, y2 = tlS T y := ⟨_, rfl⟩
              rw [← hy2e] at hy2 ⊢
              refine Tr.pic (w' := tlP E ad len T y2) (by rw [hy2e, eS]) ?_
              clear eS hy2e
              have eE : tlE T y2 = if y2.2.2.2.1 = 0 then (nxP T len y2.1, y2.2.1, (y2.2.2.1.1 + nI 1, y2.2.2.1.2), y2.2.2.2) else y2 := rfl
              have i2 := hy2.2
              refine Tr.aload_n (i := 0) dX5_tellClause_122 rfl rfl (Eq.refl 123) ?_
              refine Tr.getf dX5_tellClause_123 fX5_26 rfl rfl (Eq.refl 126) ?_
              refine Tr.if_ne (tgt := 149) dX5_tellClause_126 (by decide) (Eq.refl 129) (fun h126 => ?_) (fun h126 => ?_)
              · rw [if_neg (fun z9 => h126 (show nI y2.2.2.2.1 = 0 by rw [z9]; rfl))] at eE
                rw [eE]
                refine Tr.ret dX5_tellClause_149 rfl rfl ?_
                · rfl
              · rw [if_pos ((nI_eq_iff (b := 0) (by omega) (by decide)).mp h126)] at eE
                rw [eE]
                refine Tr.aload_n (i := 0) dX5_tellClause_129 rfl rfl (Eq.refl 130) ?_
                refine Tr.getf dX5_tellClause_130 fX5_12 rfl rfl (Eq.refl 133) ?_
                refine Tr.dup dX5_tellClause_133 rfl (Eq.refl 134) ?_
                refine Tr.getf dX5_tellClause_134 fX5_77 rfl rfl (Eq.refl 137) ?_
                refine Tr.iconst (v := nI 1) dX5_tellClause_137 (icN 1) (Eq.refl 138) ?_
                refine Tr.iadd dX5_tellClause_138 (Eq.refl 139) ?_
                refine Tr.putf dX5_tellClause_139 pX5_77 rfl (rfl) (rfl) rfl (Eq.refl 142) ?_
                refine Tr.pic (w' := tlP E ad len T (sCl y2)) rfl ?_
                refine Tr.aload_n (i := 0) dX5_tellClause_142 rfl rfl (Eq.refl 143) ?_
                refine Tr.getf dX5_tellClause_143 fX5_22 rfl rfl (Eq.refl 146) ?_
                refine Tr.callV (L := [1, 2]) (t_readToken E _ len (tkE T len y2.1.1) (tkK T len y2.1.1) (tkS T len y2.1.1) (tkN T len y2.1.1) (tkM T len y2.1.1) T hl hT (tkE_le T (Nat.le_of_lt_succ y2.1.2)).2) dX5_tellClause_146 (kX5_80 (Nat.le_of_ble_eq_true rfl)) iX4_readToken rfl rfl rfl rfl rfl rfl rfl rfl rfl rfl (Eq.refl 149) ?_
                refine Tr.pic (w' := tlP E ad len T (nxP T len y2.1, y2.2.1, (y2.2.2.1.1 + nI 1, y2.2.2.1.2), y2.2.2.2)) (putB_eq (Lc := [0, 3, 4, 5, 6, 7, 8, 9, 10, 11, 12, 13]) 14 rfl rfl rfl rfl ⟨⟨_, rfl, rfl⟩, ⟨_, rfl, rfl⟩, ⟨_, rfl, rfl⟩, ⟨_, rfl, rfl⟩, ⟨_, rfl, rfl⟩, ⟨_, rfl, rfl⟩, ⟨_, rfl, rfl⟩, ⟨_, rfl, rfl⟩, ⟨_, rfl, rfl⟩, ⟨_, rfl, rfl⟩, ⟨_, rfl, rfl⟩, ⟨_, rfl, rfl⟩, trivial⟩ (by decide) rfl) ?_
                refine Tr.ret dX5_tellClause_149 rfl rfl ?_
                · rfl
            · rw [if_pos ⟨h103, h114⟩] at eS
              refine Tr.aload_n (i := 0) dX5_tellClause_117 rfl rfl (Eq.refl 118) ?_
              refine Tr.iconst (v := nI 1) dX5_tellClause_118 (icN 1) (Eq.refl 119) ?_
              refine Tr.callVs ((show Md E _ ad _ (tlP E ad len T y) none (tlP E ad len T (blm T y 1)) from l_blame E ad len T y.1 y.2.1 y.2.2.1 y.2.2.2.1 y.2.2.2.2 1)) dX5_tellClause_119 (kX5_73 (Nat.le_of_ble_eq_true rfl)) iX5_blame rfl rfl rfl rfl rfl (tlP_le) rfl rfl (Eq.refl 122) ?_
              obtain ⟨y2, hy2e⟩ : ∃ y2, y2 = tlS T y := ⟨_, rfl⟩
              rw [← hy2e] at hy2 ⊢
              refine Tr.pic (w' := tlP E ad len T y2) (by rw [hy2e, eS]) ?_
              clear eS hy2e
              have eE : tlE T y2 = if y2.2.2.2.1 = 0 then (nxP T len y2.1, y2.2.1, (y2.2.2.1.1 + nI 1, y2.2.2.1.2), y2.2.2.2) else y2 := rfl
              have i2 := hy2.2
              refine Tr.aload_n (i := 0) dX5_tellClause_122 rfl rfl (Eq.refl 123) ?_
              refine Tr.getf dX5_tellClause_123 fX5_26 rfl rfl (Eq.refl 126) ?_
              refine Tr.if_ne (tgt := 149) dX5_tellClause_126 (by decide) (Eq.refl 129) (fun h126 => ?_) (fun h126 => ?_)
              · rw [if_neg (fun z9 => h126 (show nI y2.2.2.2.1 = 0 by rw [z9]; rfl))] at eE
                rw [eE]
                refine Tr.ret dX5_tellClause_149 rfl rfl ?_
                · rfl
              · rw [if_pos ((nI_eq_iff (b := 0) (by omega) (by decide)).mp h126)] at eE
                rw [eE]
                refine Tr.aload_n (i := 0) dX5_tellClause_129 rfl rfl (Eq.refl 130) ?_
                refine Tr.getf dX5_tellClause_130 fX5_12 rfl rfl (Eq.refl 133) ?_
                refine Tr.dup dX5_tellClause_133 rfl (Eq.refl 134) ?_
                refine Tr.getf dX5_tellClause_134 fX5_77 rfl rfl (Eq.refl 137) ?_
                refine Tr.iconst (v := nI 1) dX5_tellClause_137 (icN 1) (Eq.refl 138) ?_
                refine Tr.iadd dX5_tellClause_138 (Eq.refl 139) ?_
                refine Tr.putf dX5_tellClause_139 pX5_77 rfl (rfl) (rfl) rfl (Eq.refl 142) ?_
                refine Tr.pic (w' := tlP E ad len T (sCl y2)) rfl ?_
                refine Tr.aload_n (i := 0) dX5_tellClause_142 rfl rfl (Eq.refl 143) ?_
                refine Tr.getf dX5_tellClause_143 fX5_22 rfl rfl (Eq.refl 146) ?_
                refine Tr.callV (L := [1, 2]) (t_readToken E _ len (tkE T len y2.1.1) (tkK T len y2.1.1) (tkS T len y2.1.1) (tkN T len y2.1.1) (tkM T len y2.1.1) T hl hT (tkE_le T (Nat.le_of_lt_succ y2.1.2)).2) dX5_tellClause_146 (kX5_80 (Nat.le_of_ble_eq_true rfl)) iX4_readToken rfl rfl rfl rfl rfl rfl rfl rfl rfl rfl (Eq.refl 149) ?_
                refine Tr.pic (w' := tlP E ad len T (nxP T len y2.1, y2.2.1, (y2.2.2.1.1 + nI 1, y2.2.2.1.2), y2.2.2.2)) (putB_eq (Lc := [0, 3, 4, 5, 6, 7, 8, 9, 10, 11, 12, 13]) 14 rfl rfl rfl rfl ⟨⟨_, rfl, rfl⟩, ⟨_, rfl, rfl⟩, ⟨_, rfl, rfl⟩, ⟨_, rfl, rfl⟩, ⟨_, rfl, rfl⟩, ⟨_, rfl, rfl⟩, ⟨_, rfl, rfl⟩, ⟨_, rfl, rfl⟩, ⟨_, rfl, rfl⟩, ⟨_, rfl, rfl⟩, ⟨_, rfl, rfl⟩, ⟨_, rfl, rfl⟩, trivial⟩ (by decide) rfl) ?_
                refine Tr.ret dX5_tellClause_149 rfl rfl ?_
                · rfl
      · rw [if_pos h47] at hu
        refine Tr.aload_n (i := 0) dX5_tellClause_50 rfl rfl (Eq.refl 51) ?_
        refine Tr.callVs (ht) dX5_tellClause_51 (kX5_57 (Nat.le_of_ble_eq_true rfl)) iX5_tellTie rfl rfl rfl rfl rfl (tlP_le) rfl rfl (Eq.refl 54) ?_
        refine Tr.goto (pc' := 99) dX5_tellClause_54 (by decide) ?_
        skip
        rw [← hu]
        clear hu hh hp ht hw hla hr
        generalize tlB T z = y at *
        have ky := tkK_lt T len y.1.1
        have i1 := hB.2
        have eS : tlS T y = if y.2.2.2.1 = 0 ∧ ¬ tkK T len y.1.1 = 3 then blm T y 1 else y := rfl
        have hy2 := Ti_S (T := T) hB
        refine Tr.aload_n (i := 0) dX5_tellClause_99 rfl rfl (Eq.refl 100) ?_
        refine Tr.getf dX5_tellClause_100 fX5_26 rfl rfl (Eq.refl 103) ?_
        refine Tr.if_ne (tgt := 122) dX5_tellClause_103 (by decide) (Eq.refl 106) (fun h103 => ?_) (fun h103 => ?_)
        · rw [if_neg (fun z9 => h103 (show nI y.2.2.2.1 = 0 by rw [z9.1]; rfl))] at eS
          obtain ⟨y2, hy2e⟩ : ∃ y2, y2 = tlS T y := ⟨_, rfl⟩
          rw [← hy2e] at hy2 ⊢
          refine Tr.pic (w' := tlP E ad len T y2) (by rw [hy2e, eS]) ?_
          clear eS hy2e
          have eE : tlE T y2 = if y2.2.2.2.1 = 0 then (nxP T len y2.1, y2.2.1, (y2.2.2.1.1 + nI 1, y2.2.2.1.2), y2.2.2.2) else y2 := rfl
          have i2 := hy2.2
          refine Tr.aload_n (i := 0) dX5_tellClause_122 rfl rfl (Eq.refl 123) ?_
          refine Tr.getf dX5_tellClause_123 fX5_26 rfl rfl (Eq.refl 126) ?_
          refine Tr.if_ne (tgt := 149) dX5_tellClause_126 (by decide) (Eq.refl 129) (fun h126 => ?_) (fun h126 => ?_)
          · rw [if_neg (fun z9 => h126 (show nI y2.2.2.2.1 = 0 by rw [z9]; rfl))] at eE
            rw [eE]
            refine Tr.ret dX5_tellClause_149 rfl rfl ?_
            · rfl
          · rw [if_pos ((nI_eq_iff (b := 0) (by omega) (by decide)).mp h126)] at eE
            rw [eE]
            refine Tr.aload_n (i := 0) dX5_tellClause_129 rfl rfl (Eq.refl 130) ?_
            refine Tr.getf dX5_tellClause_130 fX5_12 rfl rfl (Eq.refl 133) ?_
            refine Tr.dup dX5_tellClause_133 rfl (Eq.refl 134) ?_
            refine Tr.getf dX5_tellClause_134 fX5_77 rfl rfl (Eq.refl 137) ?_
            refine Tr.iconst (v := nI 1) dX5_tellClause_137 (icN 1) (Eq.refl 138) ?_
            refine Tr.iadd dX5_tellClause_138 (Eq.refl 139) ?_
            refine Tr.putf dX5_tellClause_139 pX5_77 rfl (rfl) (rfl) rfl (Eq.refl 142) ?_
            refine Tr.pic (w' := tlP E ad len T (sCl y2)) rfl ?_
            refine Tr.aload_n (i := 0) dX5_tellClause_142 rfl rfl (Eq.refl 143) ?_
            refine Tr.getf dX5_tellClause_143 fX5_22 rfl rfl (Eq.refl 146) ?_
            refine Tr.callV (L := [1, 2]) (t_readToken E _ len (tkE T len y2.1.1) (tkK T len y2.1.1) (tkS T len y2.1.1) (tkN T len y2.1.1) (tkM T len y2.1.1) T hl hT (tkE_le T (Nat.le_of_lt_succ y2.1.2)).2) dX5_tellClause_146 (kX5_80 (Nat.le_of_ble_eq_true rfl)) iX4_readToken rfl rfl rfl rfl rfl rfl rfl rfl rfl rfl (Eq.refl 149) ?_
            refine Tr.pic (w' := tlP E ad len T (nxP T len y2.1, y2.2.1, (y2.2.2.1.1 + nI 1, y2.2.2.1.2), y2.2.2.2)) (putB_eq (Lc := [0, 3, 4, 5, 6, 7, 8, 9, 10, 11, 12, 13]) 14 rfl rfl rfl rfl ⟨⟨_, rfl, rfl⟩, ⟨_, rfl, rfl⟩, ⟨_, rfl, rfl⟩, ⟨_, rfl, rfl⟩, ⟨_, rfl, rfl⟩, ⟨_, rfl, rfl⟩, ⟨_, rfl, rfl⟩, ⟨_, rfl, rfl⟩, ⟨_, rfl, rfl⟩, ⟨_, rfl, rfl⟩, ⟨_, rfl, rfl⟩, ⟨_, rfl, rfl⟩, trivial⟩ (by decide) rfl) ?_
            refine Tr.ret dX5_tellClause_149 rfl rfl ?_
            · rfl
        · have h103 : y.2.2.2.1 = 0 := (nI_eq_iff (b := 0) (by omega) (by decide)).mp h103
          refine Tr.aload_n (i := 0) dX5_tellClause_106 rfl rfl (Eq.refl 107) ?_
          refine Tr.getf dX5_tellClause_107 fX5_22 rfl rfl (Eq.refl 110) ?_
          refine Tr.getf dX5_tellClause_110 fX5_37 rfl rfl (Eq.refl 113) ?_
          refine Tr.iconst (v := nI 3) dX5_tellClause_113 (icN 3) (Eq.refl 114) ?_
          refine Tr.icmp_eqN (tgt := 122) dX5_tellClause_114 (by decide) (Eq.refl 117) (by omega) (by omega) (fun h114 => ?_) (fun h114 => ?_)
          · rw [if_neg (fun z9 => z9.2 h114)] at eS
            obtain ⟨y2, hy2e⟩ : ∃ y2, y2 = tlS T y := ⟨_, rfl⟩
            rw [← hy2e] at hy2 ⊢
            refine Tr.pic (w' := tlP E ad len T y2) (by rw [hy2e, eS]) ?_
            clear eS hy2e
            have eE : tlE T y2 = if y2.2.2.2.1 = 0 then (nxP T len y2.1, y2.2.1, (y2.2.2.1.1 + nI 1, y2.2.2.1.2), y2.2.2.2) else y2 := rfl
            have i2 := hy2.2
            refine Tr.aload_n (i := 0) dX5_tellClause_122 rfl rfl (Eq.refl 123) ?_
            refine Tr.getf dX5_tellClause_123 fX5_26 rfl rfl (Eq.refl 126) ?_
            refine Tr.if_ne (tgt := 149) dX5_tellClause_126 (by decide) (Eq.refl 129) (fun h126 => ?_) (fun h126 => ?_)
            · rw [if_neg (fun z9 => h126 (show nI y2.2.2.2.1 = 0 by rw [z9]; rfl))] at eE
              rw [eE]
              refine Tr.ret dX5_tellClause_149 rfl rfl ?_
              · rfl
            · rw [if_pos ((nI_eq_iff (b := 0) (by omega) (by decide)).mp h126)] at eE
              rw [eE]
              refine Tr.aload_n (i := 0) dX5_tellClause_129 rfl rfl (Eq.refl 130) ?_
              refine Tr.getf dX5_tellClause_130 fX5_12 rfl rfl (Eq.refl 133) ?_
              refine Tr.dup dX5_tellClause_133 rfl (Eq.refl 134) ?_
              refine Tr.getf dX5_tellClause_134 fX5_77 rfl rfl (Eq.refl 137) ?_
              refine Tr.iconst (v := nI 1) dX5_tellClause_137 (icN 1) (Eq.refl 138) ?_
              refine Tr.iadd dX5_tellClause_138 (Eq.refl 139) ?_
              refine Tr.putf dX5_tellClause_139 pX5_77 rfl (rfl) (rfl) rfl (Eq.refl 142) ?_
              refine Tr.pic (w' := tlP E ad len T (sCl y2)) rfl ?_
              refine Tr.aload_n (i := 0) dX5_tellClause_142 rfl rfl (Eq.refl 143) ?_
              refine Tr.getf dX5_tellClause_143 fX5_22 rfl rfl (Eq.refl 146) ?_
              refine Tr.callV (L := [1, 2]) (t_readToken E _ len (tkE T len y2.1.1) (tkK T len y2.1.1) (tkS T len y2.1.1) (tkN T len y2.1.1) (tkM T len y2.1.1) T hl hT (tkE_le T (Nat.le_of_lt_succ y2.1.2)).2) dX5_tellClause_146 (kX5_80 (Nat.le_of_ble_eq_true rfl)) iX4_readToken rfl rfl rfl rfl rfl rfl rfl rfl rfl rfl (Eq.refl 149) ?_
              refine Tr.pic (w' := tlP E ad len T (nxP T len y2.1, y2.2.1, (y2.2.2.1.1 + nI 1, y2.2.2.1.2), y2.2.2.2)) (putB_eq (Lc := [0, 3, 4, 5, 6, 7, 8, 9, 10, 11, 12, 13]) 14 rfl rfl rfl rfl ⟨⟨_, rfl, rfl⟩, ⟨_, rfl, rfl⟩, ⟨_, rfl, rfl⟩, ⟨_, rfl, rfl⟩, ⟨_, rfl, rfl⟩, ⟨_, rfl, rfl⟩, ⟨_, rfl, rfl⟩, ⟨_, rfl, rfl⟩, ⟨_, rfl, rfl⟩, ⟨_, rfl, rfl⟩, ⟨_, rfl, rfl⟩, ⟨_, rfl, rfl⟩, trivial⟩ (by decide) rfl) ?_
              refine Tr.ret dX5_tellClause_149 rfl rfl ?_
              · rfl
          · rw [if_pos ⟨h103, h114⟩] at eS
            refine Tr.aload_n (i := 0) dX5_tellClause_117 rfl rfl (Eq.refl 118) ?_
            refine Tr.iconst (v := nI 1) dX5_tellClause_118 (icN 1) (Eq.refl 119) ?_
            refine Tr.callVs ((show Md E _ ad _ (tlP E ad len T y) none (tlP E ad len T (blm T y 1)) from l_blame E ad len T y.1 y.2.1 y.2.2.1 y.2.2.2.1 y.2.2.2.2 1)) dX5_tellClause_119 (kX5_73 (Nat.le_of_ble_eq_true rfl)) iX5_blame rfl rfl rfl rfl rfl (tlP_le) rfl rfl (Eq.refl 122) ?_
            obtain ⟨y2, hy2e⟩ : ∃ y2, y2 = tlS T y := ⟨_, rfl⟩
            rw [← hy2e] at hy2 ⊢
            refine Tr.pic (w' := tlP E ad len T y2) (by rw [hy2e, eS]) ?_
            clear eS hy2e
            have eE : tlE T y2 = if y2.2.2.2.1 = 0 then (nxP T len y2.1, y2.2.1, (y2.2.2.1.1 + nI 1, y2.2.2.1.2), y2.2.2.2) else y2 := rfl
            have i2 := hy2.2
            refine Tr.aload_n (i := 0) dX5_tellClause_122 rfl rfl (Eq.refl 123) ?_
            refine Tr.getf dX5_tellClause_123 fX5_26 rfl rfl (Eq.refl 126) ?_
            refine Tr.if_ne (tgt := 149) dX5_tellClause_126 (by decide) (Eq.refl 129) (fun h126 => ?_) (fun h126 => ?_)
            · rw [if_neg (fun z9 => h126 (show nI y2.2.2.2.1 = 0 by rw [z9]; rfl))] at eE
              rw [eE]
              refine Tr.ret dX5_tellClause_149 rfl rfl ?_
              · rfl
            · rw [if_pos ((nI_eq_iff (b := 0) (by omega) (by decide)).mp h126)] at eE
              rw [eE]
              refine Tr.aload_n (i := 0) dX5_tellClause_129 rfl rfl (Eq.refl 130) ?_
              refine Tr.getf dX5_tellClause_130 fX5_12 rfl rfl (Eq.refl 133) ?_
              refine Tr.dup dX5_tellClause_133 rfl (Eq.refl 134) ?_
              refine Tr.getf dX5_tellClause_134 fX5_77 rfl rfl (Eq.refl 137) ?_
              refine Tr.iconst (v := nI 1) dX5_tellClause_137 (icN 1) (Eq.refl 138) ?_
              refine Tr.iadd dX5_tellClause_138 (Eq.refl 139) ?_
              refine Tr.putf dX5_tellClause_139 pX5_77 rfl (rfl) (rfl) rfl (Eq.refl 142) ?_
              refine Tr.pic (w' := tlP E ad len T (sCl y2)) rfl ?_
              refine Tr.aload_n (i := 0) dX5_tellClause_142 rfl rfl (Eq.refl 143) ?_
              refine Tr.getf dX5_tellClause_143 fX5_22 rfl rfl (Eq.refl 146) ?_
              refine Tr.callV (L := [1, 2]) (t_readToken E _ len (tkE T len y2.1.1) (tkK T len y2.1.1) (tkS T len y2.1.1) (tkN T len y2.1.1) (tkM T len y2.1.1) T hl hT (tkE_le T (Nat.le_of_lt_succ y2.1.2)).2) dX5_tellClause_146 (kX5_80 (Nat.le_of_ble_eq_true rfl)) iX4_readToken rfl rfl rfl rfl rfl rfl rfl rfl rfl rfl (Eq.refl 149) ?_
              refine Tr.pic (w' := tlP E ad len T (nxP T len y2.1, y2.2.1, (y2.2.2.1.1 + nI 1, y2.2.2.1.2), y2.2.2.2)) (putB_eq (Lc := [0, 3, 4, 5, 6, 7, 8, 9, 10, 11, 12, 13]) 14 rfl rfl rfl rfl ⟨⟨_, rfl, rfl⟩, ⟨_, rfl, rfl⟩, ⟨_, rfl, rfl⟩, ⟨_, rfl, rfl⟩, ⟨_, rfl, rfl⟩, ⟨_, rfl, rfl⟩, ⟨_, rfl, rfl⟩, ⟨_, rfl, rfl⟩, ⟨_, rfl, rfl⟩, ⟨_, rfl, rfl⟩, ⟨_, rfl, rfl⟩, ⟨_, rfl, rfl⟩, trivial⟩ (by decide) rfl) ?_
              refine Tr.ret dX5_tellClause_149 rfl rfl ?_
              · rfl
    · rw [if_pos h28] at hu
      refine Tr.aload_n (i := 0) dX5_tellClause_31 rfl rfl (Eq.refl 32) ?_
      refine Tr.callVs (hp) dX5_tellClause_32 (kX5_52 (Nat.le_of_ble_eq_true rfl)) iX5_tellPerson rfl rfl rfl rfl rfl (tlP_le) rfl rfl (Eq.refl 35) ?_
      refine Tr.goto (pc' := 99) dX5_tellClause_35 (by decide) ?_
      skip
      rw [← hu]
      clear hu hh hp ht hw hla hr
      generalize tlB T z = y at *
      have ky := tkK_lt T len y.1.1
      have i1 := hB.2
      have eS : tlS T y = if y.2.2.2.1 = 0 ∧ ¬ tkK T len y.1.1 = 3 then blm T y 1 else y := rfl
      have hy2 := Ti_S (T := T) hB
      refine Tr.aload_n (i := 0) dX5_tellClause_99 rfl rfl (Eq.refl 100) ?_
      refine Tr.getf dX5_tellClause_100 fX5_26 rfl rfl (Eq.refl 103) ?_
      refine Tr.if_ne (tgt := 122) dX5_tellClause_103 (by decide) (Eq.refl 106) (fun h103 => ?_) (fun h103 => ?_)
      · rw [if_neg (fun z9 => h103 (show nI y.2.2.2.1 = 0 by rw [z9.1]; rfl))] at eS
        obtain ⟨y2, hy2e⟩ : ∃ y2, y2 = tlS T y := ⟨_, rfl⟩
        rw [← hy2e] at hy2 ⊢
        refine Tr.pic (w' := tlP E ad len T y2) (by rw [hy2e, eS]) ?_
        clear eS hy2e
        have eE : tlE T y2 = if y2.2.2.2.1 = 0 then (nxP T len y2.1, y2.2.1, (y2.2.2.1.1 + nI 1, y2.2.2.1.2), y2.2.2.2) else y2 := rfl
        have i2 := hy2.2
        refine Tr.aload_n (i := 0) dX5_tellClause_122 rfl rfl (Eq.refl 123) ?_
        refine Tr.getf dX5_tellClause_123 fX5_26 rfl rfl (Eq.refl 126) ?_
        refine Tr.if_ne (tgt := 149) dX5_tellClause_126 (by decide) (Eq.refl 129) (fun h126 => ?_) (fun h126 => ?_)
        · rw [if_neg (fun z9 => h126 (show nI y2.2.2.2.1 = 0 by rw [z9]; rfl))] at eE
          rw [eE]
          refine Tr.ret dX5_tellClause_149 rfl rfl ?_
          · rfl
        · rw [if_pos ((nI_eq_iff (b := 0) (by omega) (by decide)).mp h126)] at eE
          rw [eE]
          refine Tr.aload_n (i := 0) dX5_tellClause_129 rfl rfl (Eq.refl 130) ?_
          refine Tr.getf dX5_tellClause_130 fX5_12 rfl rfl (Eq.refl 133) ?_
          refine Tr.dup dX5_tellClause_133 rfl (Eq.refl 134) ?_
          refine Tr.getf dX5_tellClause_134 fX5_77 rfl rfl (Eq.refl 137) ?_
          refine Tr.iconst (v := nI 1) dX5_tellClause_137 (icN 1) (Eq.refl 138) ?_
          refine Tr.iadd dX5_tellClause_138 (Eq.refl 139) ?_
          refine Tr.putf dX5_tellClause_139 pX5_77 rfl (rfl) (rfl) rfl (Eq.refl 142) ?_
          refine Tr.pic (w' := tlP E ad len T (sCl y2)) rfl ?_
          refine Tr.aload_n (i := 0) dX5_tellClause_142 rfl rfl (Eq.refl 143) ?_
          refine Tr.getf dX5_tellClause_143 fX5_22 rfl rfl (Eq.refl 146) ?_
          refine Tr.callV (L := [1, 2]) (t_readToken E _ len (tkE T len y2.1.1) (tkK T len y2.1.1) (tkS T len y2.1.1) (tkN T len y2.1.1) (tkM T len y2.1.1) T hl hT (tkE_le T (Nat.le_of_lt_succ y2.1.2)).2) dX5_tellClause_146 (kX5_80 (Nat.le_of_ble_eq_true rfl)) iX4_readToken rfl rfl rfl rfl rfl rfl rfl rfl rfl rfl (Eq.refl 149) ?_
          refine Tr.pic (w' := tlP E ad len T (nxP T len y2.1, y2.2.1, (y2.2.2.1.1 + nI 1, y2.2.2.1.2), y2.2.2.2)) (putB_eq (Lc := [0, 3, 4, 5, 6, 7, 8, 9, 10, 11, 12, 13]) 14 rfl rfl rfl rfl ⟨⟨_, rfl, rfl⟩, ⟨_, rfl, rfl⟩, ⟨_, rfl, rfl⟩, ⟨_, rfl, rfl⟩, ⟨_, rfl, rfl⟩, ⟨_, rfl, rfl⟩, ⟨_, rfl, rfl⟩, ⟨_, rfl, rfl⟩, ⟨_, rfl, rfl⟩, ⟨_, rfl, rfl⟩, ⟨_, rfl, rfl⟩, ⟨_, rfl, rfl⟩, trivial⟩ (by decide) rfl) ?_
          refine Tr.ret dX5_tellClause_149 rfl rfl ?_
          · rfl
      · have h103 : y.2.2.2.1 = 0 := (nI_eq_iff (b := 0) (by omega) (by decide)).mp h103
        refine Tr.aload_n (i := 0) dX5_tellClause_106 rfl rfl (Eq.refl 107) ?_
        refine Tr.getf dX5_tellClause_107 fX5_22 rfl rfl (Eq.refl 110) ?_
        refine Tr.getf dX5_tellClause_110 fX5_37 rfl rfl (Eq.refl 113) ?_
        refine Tr.iconst (v := nI 3) dX5_tellClause_113 (icN 3) (Eq.refl 114) ?_
        refine Tr.icmp_eqN (tgt := 122) dX5_tellClause_114 (by decide) (Eq.refl 117) (by omega) (by omega) (fun h114 => ?_) (fun h114 => ?_)
        · rw [if_neg (fun z9 => z9.2 h114)] at eS
          obtain ⟨y2, hy2e⟩ : ∃ y2, y2 = tlS T y := ⟨_, rfl⟩
          rw [← hy2e] at hy2 ⊢
          refine Tr.pic (w' := tlP E ad len T y2) (by rw [hy2e, eS]) ?_
          clear eS hy2e
          have eE : tlE T y2 = if y2.2.2.2.1 = 0 then (nxP T len y2.1, y2.2.1, (y2.2.2.1.1 + nI 1, y2.2.2.1.2), y2.2.2.2) else y2 := rfl
          have i2 := hy2.2
          refine Tr.aload_n (i := 0) dX5_tellClause_122 rfl rfl (Eq.refl 123) ?_
          refine Tr.getf dX5_tellClause_123 fX5_26 rfl rfl (Eq.refl 126) ?_
          refine Tr.if_ne (tgt := 149) dX5_tellClause_126 (by decide) (Eq.refl 129) (fun h126 => ?_) (fun h126 => ?_)
          · rw [if_neg (fun z9 => h126 (show nI y2.2.2.2.1 = 0 by rw [z9]; rfl))] at eE
            rw [eE]
            refine Tr.ret dX5_tellClause_149 rfl rfl ?_
            · rfl
          · rw [if_pos ((nI_eq_iff (b := 0) (by omega) (by decide)).mp h126)] at eE
            rw [eE]
            refine Tr.aload_n (i := 0) dX5_tellClause_129 rfl rfl (Eq.refl 130) ?_
            refine Tr.getf dX5_tellClause_130 fX5_12 rfl rfl (Eq.refl 133) ?_
            refine Tr.dup dX5_tellClause_133 rfl (Eq.refl 134) ?_
            refine Tr.getf dX5_tellClause_134 fX5_77 rfl rfl (Eq.refl 137) ?_
            refine Tr.iconst (v := nI 1) dX5_tellClause_137 (icN 1) (Eq.refl 138) ?_
            refine Tr.iadd dX5_tellClause_138 (Eq.refl 139) ?_
            refine Tr.putf dX5_tellClause_139 pX5_77 rfl (rfl) (rfl) rfl (Eq.refl 142) ?_
            refine Tr.pic (w' := tlP E ad len T (sCl y2)) rfl ?_
            refine Tr.aload_n (i := 0) dX5_tellClause_142 rfl rfl (Eq.refl 143) ?_
            refine Tr.getf dX5_tellClause_143 fX5_22 rfl rfl (Eq.refl 146) ?_
            refine Tr.callV (L := [1, 2]) (t_readToken E _ len (tkE T len y2.1.1) (tkK T len y2.1.1) (tkS T len y2.1.1) (tkN T len y2.1.1) (tkM T len y2.1.1) T hl hT (tkE_le T (Nat.le_of_lt_succ y2.1.2)).2) dX5_tellClause_146 (kX5_80 (Nat.le_of_ble_eq_true rfl)) iX4_readToken rfl rfl rfl rfl rfl rfl rfl rfl rfl rfl (Eq.refl 149) ?_
            refine Tr.pic (w' := tlP E ad len T (nxP T len y2.1, y2.2.1, (y2.2.2.1.1 + nI 1, y2.2.2.1.2), y2.2.2.2)) (putB_eq (Lc := [0, 3, 4, 5, 6, 7, 8, 9, 10, 11, 12, 13]) 14 rfl rfl rfl rfl ⟨⟨_, rfl, rfl⟩, ⟨_, rfl, rfl⟩, ⟨_, rfl, rfl⟩, ⟨_, rfl, rfl⟩, ⟨_, rfl, rfl⟩, ⟨_, rfl, rfl⟩, ⟨_, rfl, rfl⟩, ⟨_, rfl, rfl⟩, ⟨_, rfl, rfl⟩, ⟨_, rfl, rfl⟩, ⟨_, rfl, rfl⟩, ⟨_, rfl, rfl⟩, trivial⟩ (by decide) rfl) ?_
            refine Tr.ret dX5_tellClause_149 rfl rfl ?_
            · rfl
        · rw [if_pos ⟨h103, h114⟩] at eS
          refine Tr.aload_n (i := 0) dX5_tellClause_117 rfl rfl (Eq.refl 118) ?_
          refine Tr.iconst (v := nI 1) dX5_tellClause_118 (icN 1) (Eq.refl 119) ?_
          refine Tr.callVs ((show Md E _ ad _ (tlP E ad len T y) none (tlP E ad len T (blm T y 1)) from l_blame E ad len T y.1 y.2.1 y.2.2.1 y.2.2.2.1 y.2.2.2.2 1)) dX5_tellClause_119 (kX5_73 (Nat.le_of_ble_eq_true rfl)) iX5_blame rfl rfl rfl rfl rfl (tlP_le) rfl rfl (Eq.refl 122) ?_
          obtain ⟨y2, hy2e⟩ : ∃ y2, y2 = tlS T y := ⟨_, rfl⟩
          rw [← hy2e] at hy2 ⊢
          refine Tr.pic (w' := tlP E ad len T y2) (by rw [hy2e, eS]) ?_
          clear eS hy2e
          have eE : tlE T y2 = if y2.2.2.2.1 = 0 then (nxP T len y2.1, y2.2.1, (y2.2.2.1.1 + nI 1, y2.2.2.1.2), y2.2.2.2) else y2 := rfl
          have i2 := hy2.2
          refine Tr.aload_n (i := 0) dX5_tellClause_122 rfl rfl (Eq.refl 123) ?_
          refine Tr.getf dX5_tellClause_123 fX5_26 rfl rfl (Eq.refl 126) ?_
          refine Tr.if_ne (tgt := 149) dX5_tellClause_126 (by decide) (Eq.refl 129) (fun h126 => ?_) (fun h126 => ?_)
          · rw [if_neg (fun z9 => h126 (show nI y2.2.2.2.1 = 0 by rw [z9]; rfl))] at eE
            rw [eE]
            refine Tr.ret dX5_tellClause_149 rfl rfl ?_
            · rfl
          · rw [if_pos ((nI_eq_iff (b := 0) (by omega) (by decide)).mp h126)] at eE
            rw [eE]
            refine Tr.aload_n (i := 0) dX5_tellClause_129 rfl rfl (Eq.refl 130) ?_
            refine Tr.getf dX5_tellClause_130 fX5_12 rfl rfl (Eq.refl 133) ?_
            refine Tr.dup dX5_tellClause_133 rfl (Eq.refl 134) ?_
            refine Tr.getf dX5_tellClause_134 fX5_77 rfl rfl (Eq.refl 137) ?_
            refine Tr.iconst (v := nI 1) dX5_tellClause_137 (icN 1) (Eq.refl 138) ?_
            refine Tr.iadd dX5_tellClause_138 (Eq.refl 139) ?_
            refine Tr.putf dX5_tellClause_139 pX5_77 rfl (rfl) (rfl) rfl (Eq.refl 142) ?_
            refine Tr.pic (w' := tlP E ad len T (sCl y2)) rfl ?_
            refine Tr.aload_n (i := 0) dX5_tellClause_142 rfl rfl (Eq.refl 143) ?_
            refine Tr.getf dX5_tellClause_143 fX5_22 rfl rfl (Eq.refl 146) ?_
            refine Tr.callV (L := [1, 2]) (t_readToken E _ len (tkE T len y2.1.1) (tkK T len y2.1.1) (tkS T len y2.1.1) (tkN T len y2.1.1) (tkM T len y2.1.1) T hl hT (tkE_le T (Nat.le_of_lt_succ y2.1.2)).2) dX5_tellClause_146 (kX5_80 (Nat.le_of_ble_eq_true rfl)) iX4_readToken rfl rfl rfl rfl rfl rfl rfl rfl rfl rfl (Eq.refl 149) ?_
            refine Tr.pic (w' := tlP E ad len T (nxP T len y2.1, y2.2.1, (y2.2.2.1.1 + nI 1, y2.2.2.1.2), y2.2.2.2)) (putB_eq (Lc := [0, 3, 4, 5, 6, 7, 8, 9, 10, 11, 12, 13]) 14 rfl rfl rfl rfl ⟨⟨_, rfl, rfl⟩, ⟨_, rfl, rfl⟩, ⟨_, rfl, rfl⟩, ⟨_, rfl, rfl⟩, ⟨_, rfl, rfl⟩, ⟨_, rfl, rfl⟩, ⟨_, rfl, rfl⟩, ⟨_, rfl, rfl⟩, ⟨_, rfl, rfl⟩, ⟨_, rfl, rfl⟩, ⟨_, rfl, rfl⟩, ⟨_, rfl, rfl⟩, trivial⟩ (by decide) rfl) ?_
            refine Tr.ret dX5_tellClause_149 rfl rfl ?_
            · rfl
  · rw [if_pos h9] at hu
    refine Tr.aload_n (i := 0) dX5_tellClause_12 rfl rfl (Eq.refl 13) ?_
    refine Tr.callVs (hh) dX5_tellClause_13 (kX5_47 (Nat.le_of_ble_eq_true rfl)) iX5_tellHouse rfl rfl rfl rfl rfl (tlP_le) rfl rfl (Eq.refl 16) ?_
    refine Tr.goto (pc' := 99) dX5_tellClause_16 (by decide) ?_
    skip
    rw [← hu]
    clear hu hh hp ht hw hla hr
    generalize tlB T z = y at *
    have ky := tkK_lt T len y.1.1
    have i1 := hB.2
    have eS : tlS T y = if y.2.2.2.1 = 0 ∧ ¬ tkK T len y.1.1 = 3 then blm T y 1 else y := rfl
    have hy2 := Ti_S (T := T) hB
    refine Tr.aload_n (i := 0) dX5_tellClause_99 rfl rfl (Eq.refl 100) ?_
    refine Tr.getf dX5_tellClause_100 fX5_26 rfl rfl (Eq.refl 103) ?_
    refine Tr.if_ne (tgt := 122) dX5_tellClause_103 (by decide) (Eq.refl 106) (fun h103 => ?_) (fun h103 => ?_)
    · rw [if_neg (fun z9 => h103 (show nI y.2.2.2.1 = 0 by rw [z9.1]; rfl))] at eS
      obtain ⟨y2, hy2e⟩ : ∃ y2, y2 = tlS T y := ⟨_, rfl⟩
      rw [← hy2e] at hy2 ⊢
      refine Tr.pic (w' := tlP E ad len T y2) (by rw [hy2e, eS]) ?_
      clear eS hy2e
      have eE : tlE T y2 = if y2.2.2.2.1 = 0 then (nxP T len y2.1, y2.2.1, (y2.2.2.1.1 + nI 1, y2.2.2.1.2), y2.2.2.2) else y2 := rfl
      have i2 := hy2.2
      refine Tr.aload_n (i := 0) dX5_tellClause_122 rfl rfl (Eq.refl 123) ?_
      refine Tr.getf dX5_tellClause_123 fX5_26 rfl rfl (Eq.refl 126) ?_
      refine Tr.if_ne (tgt := 149) dX5_tellClause_126 (by decide) (Eq.refl 129) (fun h126 => ?_) (fun h126 => ?_)
      · rw [if_neg (fun z9 => h126 (show nI y2.2.2.2.1 = 0 by rw [z9]; rfl))] at eE
        rw [eE]
        refine Tr.ret dX5_tellClause_149 rfl rfl ?_
        · rfl
      · rw [if_pos ((nI_eq_iff (b := 0) (by omega) (by decide)).mp h126)] at eE
        rw [eE]
        refine Tr.aload_n (i := 0) dX5_tellClause_129 rfl rfl (Eq.refl 130) ?_
        refine Tr.getf dX5_tellClause_130 fX5_12 rfl rfl (Eq.refl 133) ?_
        refine Tr.dup dX5_tellClause_133 rfl (Eq.refl 134) ?_
        refine Tr.getf dX5_tellClause_134 fX5_77 rfl rfl (Eq.refl 137) ?_
        refine Tr.iconst (v := nI 1) dX5_tellClause_137 (icN 1) (Eq.refl 138) ?_
        refine Tr.iadd dX5_tellClause_138 (Eq.refl 139) ?_
        refine Tr.putf dX5_tellClause_139 pX5_77 rfl (rfl) (rfl) rfl (Eq.refl 142) ?_
        refine Tr.pic (w' := tlP E ad len T (sCl y2)) rfl ?_
        refine Tr.aload_n (i := 0) dX5_tellClause_142 rfl rfl (Eq.refl 143) ?_
        refine Tr.getf dX5_tellClause_143 fX5_22 rfl rfl (Eq.refl 146) ?_
        refine Tr.callV (L := [1, 2]) (t_readToken E _ len (tkE T len y2.1.1) (tkK T len y2.1.1) (tkS T len y2.1.1) (tkN T len y2.1.1) (tkM T len y2.1.1) T hl hT (tkE_le T (Nat.le_of_lt_succ y2.1.2)).2) dX5_tellClause_146 (kX5_80 (Nat.le_of_ble_eq_true rfl)) iX4_readToken rfl rfl rfl rfl rfl rfl rfl rfl rfl rfl (Eq.refl 149) ?_
        refine Tr.pic (w' := tlP E ad len T (nxP T len y2.1, y2.2.1, (y2.2.2.1.1 + nI 1, y2.2.2.1.2), y2.2.2.2)) (putB_eq (Lc := [0, 3, 4, 5, 6, 7, 8, 9, 10, 11, 12, 13]) 14 rfl rfl rfl rfl ⟨⟨_, rfl, rfl⟩, ⟨_, rfl, rfl⟩, ⟨_, rfl, rfl⟩, ⟨_, rfl, rfl⟩, ⟨_, rfl, rfl⟩, ⟨_, rfl, rfl⟩, ⟨_, rfl, rfl⟩, ⟨_, rfl, rfl⟩, ⟨_, rfl, rfl⟩, ⟨_, rfl, rfl⟩, ⟨_, rfl, rfl⟩, ⟨_, rfl, rfl⟩, trivial⟩ (by decide) rfl) ?_
        refine Tr.ret dX5_tellClause_149 rfl rfl ?_
        · rfl
    · have h103 : y.2.2.2.1 = 0 := (nI_eq_iff (b := 0) (by omega) (by decide)).mp h103
      refine Tr.aload_n (i := 0) dX5_tellClause_106 rfl rfl (Eq.refl 107) ?_
      refine Tr.getf dX5_tellClause_107 fX5_22 rfl rfl (Eq.refl 110) ?_
      refine Tr.getf dX5_tellClause_110 fX5_37 rfl rfl (Eq.refl 113) ?_
      refine Tr.iconst (v := nI 3) dX5_tellClause_113 (icN 3) (Eq.refl 114) ?_
      refine Tr.icmp_eqN (tgt := 122) dX5_tellClause_114 (by decide) (Eq.refl 117) (by omega) (by omega) (fun h114 => ?_) (fun h114 => ?_)
      · rw [if_neg (fun z9 => z9.2 h114)] at eS
        obtain ⟨y2, hy2e⟩ : ∃ y2, y2 = tlS T y := ⟨_, rfl⟩
        rw [← hy2e] at hy2 ⊢
        refine Tr.pic (w' := tlP E ad len T y2) (by rw [hy2e, eS]) ?_
        clear eS hy2e
        have eE : tlE T y2 = if y2.2.2.2.1 = 0 then (nxP T len y2.1, y2.2.1, (y2.2.2.1.1 + nI 1, y2.2.2.1.2), y2.2.2.2) else y2 := rfl
        have i2 := hy2.2
        refine Tr.aload_n (i := 0) dX5_tellClause_122 rfl rfl (Eq.refl 123) ?_
        refine Tr.getf dX5_tellClause_123 fX5_26 rfl rfl (Eq.refl 126) ?_
        refine Tr.if_ne (tgt := 149) dX5_tellClause_126 (by decide) (Eq.refl 129) (fun h126 => ?_) (fun h126 => ?_)
        · rw [if_neg (fun z9 => h126 (show nI y2.2.2.2.1 = 0 by rw [z9]; rfl))] at eE
          rw [eE]
          refine Tr.ret dX5_tellClause_149 rfl rfl ?_
          · rfl
        · rw [if_pos ((nI_eq_iff (b := 0) (by omega) (by decide)).mp h126)] at eE
          rw [eE]
          refine Tr.aload_n (i := 0) dX5_tellClause_129 rfl rfl (Eq.refl 130) ?_
          refine Tr.getf dX5_tellClause_130 fX5_12 rfl rfl (Eq.refl 133) ?_
          refine Tr.dup dX5_tellClause_133 rfl (Eq.refl 134) ?_
          refine Tr.getf dX5_tellClause_134 fX5_77 rfl rfl (Eq.refl 137) ?_
          refine Tr.iconst (v := nI 1) dX5_tellClause_137 (icN 1) (Eq.refl 138) ?_
          refine Tr.iadd dX5_tellClause_138 (Eq.refl 139) ?_
          refine Tr.putf dX5_tellClause_139 pX5_77 rfl (rfl) (rfl) rfl (Eq.refl 142) ?_
          refine Tr.pic (w' := tlP E ad len T (sCl y2)) rfl ?_
          refine Tr.aload_n (i := 0) dX5_tellClause_142 rfl rfl (Eq.refl 143) ?_
          refine Tr.getf dX5_tellClause_143 fX5_22 rfl rfl (Eq.refl 146) ?_
          refine Tr.callV (L := [1, 2]) (t_readToken E _ len (tkE T len y2.1.1) (tkK T len y2.1.1) (tkS T len y2.1.1) (tkN T len y2.1.1) (tkM T len y2.1.1) T hl hT (tkE_le T (Nat.le_of_lt_succ y2.1.2)).2) dX5_tellClause_146 (kX5_80 (Nat.le_of_ble_eq_true rfl)) iX4_readToken rfl rfl rfl rfl rfl rfl rfl rfl rfl rfl (Eq.refl 149) ?_
          refine Tr.pic (w' := tlP E ad len T (nxP T len y2.1, y2.2.1, (y2.2.2.1.1 + nI 1, y2.2.2.1.2), y2.2.2.2)) (putB_eq (Lc := [0, 3, 4, 5, 6, 7, 8, 9, 10, 11, 12, 13]) 14 rfl rfl rfl rfl ⟨⟨_, rfl, rfl⟩, ⟨_, rfl, rfl⟩, ⟨_, rfl, rfl⟩, ⟨_, rfl, rfl⟩, ⟨_, rfl, rfl⟩, ⟨_, rfl, rfl⟩, ⟨_, rfl, rfl⟩, ⟨_, rfl, rfl⟩, ⟨_, rfl, rfl⟩, ⟨_, rfl, rfl⟩, ⟨_, rfl, rfl⟩, ⟨_, rfl, rfl⟩, trivial⟩ (by decide) rfl) ?_
          refine Tr.ret dX5_tellClause_149 rfl rfl ?_
          · rfl
      · rw [if_pos ⟨h103, h114⟩] at eS
        refine Tr.aload_n (i := 0) dX5_tellClause_117 rfl rfl (Eq.refl 118) ?_
        refine Tr.iconst (v := nI 1) dX5_tellClause_118 (icN 1) (Eq.refl 119) ?_
        refine Tr.callVs ((show Md E _ ad _ (tlP E ad len T y) none (tlP E ad len T (blm T y 1)) from l_blame E ad len T y.1 y.2.1 y.2.2.1 y.2.2.2.1 y.2.2.2.2 1)) dX5_tellClause_119 (kX5_73 (Nat.le_of_ble_eq_true rfl)) iX5_blame rfl rfl rfl rfl rfl (tlP_le) rfl rfl (Eq.refl 122) ?_
        obtain ⟨y2, hy2e⟩ : ∃ y2, y2 = tlS T y := ⟨_, rfl⟩
        rw [← hy2e] at hy2 ⊢
        refine Tr.pic (w' := tlP E ad len T y2) (by rw [hy2e, eS]) ?_
        clear eS hy2e
        have eE : tlE T y2 = if y2.2.2.2.1 = 0 then (nxP T len y2.1, y2.2.1, (y2.2.2.1.1 + nI 1, y2.2.2.1.2), y2.2.2.2) else y2 := rfl
        have i2 := hy2.2
        refine Tr.aload_n (i := 0) dX5_tellClause_122 rfl rfl (Eq.refl 123) ?_
        refine Tr.getf dX5_tellClause_123 fX5_26 rfl rfl (Eq.refl 126) ?_
        refine Tr.if_ne (tgt := 149) dX5_tellClause_126 (by decide) (Eq.refl 129) (fun h126 => ?_) (fun h126 => ?_)
        · rw [if_neg (fun z9 => h126 (show nI y2.2.2.2.1 = 0 by rw [z9]; rfl))] at eE
          rw [eE]
          refine Tr.ret dX5_tellClause_149 rfl rfl ?_
          · rfl
        · rw [if_pos ((nI_eq_iff (b := 0) (by omega) (by decide)).mp h126)] at eE
          rw [eE]
          refine Tr.aload_n (i := 0) dX5_tellClause_129 rfl rfl (Eq.refl 130) ?_
          refine Tr.getf dX5_tellClause_130 fX5_12 rfl rfl (Eq.refl 133) ?_
          refine Tr.dup dX5_tellClause_133 rfl (Eq.refl 134) ?_
          refine Tr.getf dX5_tellClause_134 fX5_77 rfl rfl (Eq.refl 137) ?_
          refine Tr.iconst (v := nI 1) dX5_tellClause_137 (icN 1) (Eq.refl 138) ?_
          refine Tr.iadd dX5_tellClause_138 (Eq.refl 139) ?_
          refine Tr.putf dX5_tellClause_139 pX5_77 rfl (rfl) (rfl) rfl (Eq.refl 142) ?_
          refine Tr.pic (w' := tlP E ad len T (sCl y2)) rfl ?_
          refine Tr.aload_n (i := 0) dX5_tellClause_142 rfl rfl (Eq.refl 143) ?_
          refine Tr.getf dX5_tellClause_143 fX5_22 rfl rfl (Eq.refl 146) ?_
          refine Tr.callV (L := [1, 2]) (t_readToken E _ len (tkE T len y2.1.1) (tkK T len y2.1.1) (tkS T len y2.1.1) (tkN T len y2.1.1) (tkM T len y2.1.1) T hl hT (tkE_le T (Nat.le_of_lt_succ y2.1.2)).2) dX5_tellClause_146 (kX5_80 (Nat.le_of_ble_eq_true rfl)) iX4_readToken rfl rfl rfl rfl rfl rfl rfl rfl rfl rfl (Eq.refl 149) ?_
          refine Tr.pic (w' := tlP E ad len T (nxP T len y2.1, y2.2.1, (y2.2.2.1.1 + nI 1, y2.2.2.1.2), y2.2.2.2)) (putB_eq (Lc := [0, 3, 4, 5, 6, 7, 8, 9, 10, 11, 12, 13]) 14 rfl rfl rfl rfl ⟨⟨_, rfl, rfl⟩, ⟨_, rfl, rfl⟩, ⟨_, rfl, rfl⟩, ⟨_, rfl, rfl⟩, ⟨_, rfl, rfl⟩, ⟨_, rfl, rfl⟩, ⟨_, rfl, rfl⟩, ⟨_, rfl, rfl⟩, ⟨_, rfl, rfl⟩, ⟨_, rfl, rfl⟩, ⟨_, rfl, rfl⟩, ⟨_, rfl, rfl⟩, trivial⟩ (by decide) rfl) ?_
          refine Tr.ret dX5_tellClause_149 rfl rfl ?_
          · rfl
/-- clauses up to the end or the first fault -/
def tlF (T : Nat → Nat) {len : Nat} : Nat → Tlt len → Tlt len
  | 0, z => z
  | n + 1, z => if z.2.2.2.1 = 0 ∧ ¬ tkK T len z.1.1 = 0 then tlF T n (tlCl T z) else z
theorem Ti_F {T : Nat → Nat} {len : Nat} : ∀ n (z : Tlt len), Ti z → Ti (tlF T n z) := by
  intro n
  induction n with
  | zero => intro z h; exact h
  | succ n ih =>
    intro z h
    unfold tlF
    split
    · exact ih _ (Ti_cl h)
    · exact h
set_option maxHeartbeats 4000000 in
set_option maxRecDepth 100000 in
theorem l_tellAll_loop (E : EnvT) (ad : Nat → Nat) (len : Nat) (T : Nat → Nat) (hl : len ≤ 900) (hT : ∀ k, k < 900 → T k < 256) : ∀ (n i : Nat) (z : Tlt len), i + n = 900 → Ti z → Tr (E, mX5_tellAll, ad, some (.int (bI (decide ((tlF T n z).2.2.2.1 = 0)))), tlP E ad len T (tlF T n z)) 0 0 26 [some (.ref (ad 0)), some (.int (nI i))] [] (tlP E ad len T z) := by
  intro n
  induction n with
  | zero =>
    intro i z hi hz
    have i2 := hz.2
    show Tr (_, _, _, some (.int (bI (decide (z.2.2.2.1 = 0)))), tlP E ad len T z) 0 0 26 _ _ _
    refine Tr.iload_n (i := 1) dX5_tellAll_26 rfl rfl (Eq.refl 27) ?_
    refine Tr.sipush (v := nI 900) dX5_tellAll_27 (by decide +kernel) (Eq.refl 30) ?_
    refine Tr.icmp_geN (tgt := 60) dX5_tellAll_30 (by decide) (Eq.refl 33) (by omega) (by omega) (fun h30 => ?_) (fun h30 => ?_)
    · refine Tr.aload_n (i := 0) dX5_tellAll_60 rfl rfl (Eq.refl 61) ?_
      refine Tr.getf dX5_tellAll_61 fX5_26 rfl rfl (Eq.refl 64) ?_
      refine Tr.if_ne (tgt := 71) dX5_tellAll_64 (by decide) (Eq.refl 67) (fun h64 => ?_) (fun h64 => ?_)
      · rw [decide_eq_false (fun z9 => h64 (show nI z.2.2.2.1 = 0 by rw [z9]; rfl))]
        refine Tr.iconst (v := nI 0) dX5_tellAll_71 (icN 0) (Eq.refl 72) ?_
        refine Tr.iret dX5_tellAll_72 rfl (by first | rfl | exact bI_nar _) ?_ ?_
        · rfl
        · rfl
      · rw [decide_eq_true ((nI_eq_iff (b := 0) (by omega) (by decide)).mp h64)]
        refine Tr.iconst (v := nI 1) dX5_tellAll_67 (icN 1) (Eq.refl 68) ?_
        refine Tr.goto (pc' := 72) dX5_tellAll_68 (by decide) ?_
        refine Tr.iret dX5_tellAll_72 rfl (by first | rfl | exact bI_nar _) ?_ ?_
        · rfl
        · rfl
    · exact absurd h30 (by omega)
  | succ n ih =>
    intro i z hi hz
    have i2 := hz.2
    have hk := tkK_lt T len z.1.1
    have hu : tlF T (n + 1) z = if z.2.2.2.1 = 0 ∧ ¬ tkK T len z.1.1 = 0 then tlF T n (tlCl T z) else z := rfl
    rw [hu]
    clear hu
    have ih2 := ih (i + 1) (tlCl T z) (by omega) (Ti_cl hz)
    have hC := l_tellClause E ad len T z hl hT hz
    refine Tr.iload_n (i := 1) dX5_tellAll_26 rfl rfl (Eq.refl 27) ?_
    refine Tr.sipush (v := nI 900) dX5_tellAll_27 (by decide +kernel) (Eq.refl 30) ?_
    refine Tr.icmp_geN (tgt := 60) dX5_tellAll_30 (by decide) (Eq.refl 33) (by omega) (by omega) (fun h30 => ?_) (fun h30 => ?_)
    · exact absurd h30 (by omega)
    · refine Tr.aload_n (i := 0) dX5_tellAll_33 rfl rfl (Eq.refl 34) ?_
      refine Tr.getf dX5_tellAll_34 fX5_26 rfl rfl (Eq.refl 37) ?_
      refine Tr.if_ne (tgt := 60) dX5_tellAll_37 (by decide) (Eq.refl 40) (fun h37 => ?_) (fun h37 => ?_)
      · have h37 : ¬ z.2.2.2.1 = 0 := fun z9 => h37 (show nI z.2.2.2.1 = 0 by rw [z9]; rfl)
        rw [if_neg (fun z9 => h37 z9.1)]
        refine Tr.aload_n (i := 0) dX5_tellAll_60 rfl rfl (Eq.refl 61) ?_
        refine Tr.getf dX5_tellAll_61 fX5_26 rfl rfl (Eq.refl 64) ?_
        refine Tr.if_ne (tgt := 71) dX5_tellAll_64 (by decide) (Eq.refl 67) (fun h64 => ?_) (fun h64 => ?_)
        · rw [decide_eq_false (fun z9 => h64 (show nI z.2.2.2.1 = 0 by rw [z9]; rfl))]
          refine Tr.iconst (v := nI 0) dX5_tellAll_71 (icN 0) (Eq.refl 72) ?_
          refine Tr.iret dX5_tellAll_72 rfl (by first | rfl | exact bI_nar _) ?_ ?_
          · rfl
          · rfl
        · rw [decide_eq_true ((nI_eq_iff (b := 0) (by omega) (by decide)).mp h64)]
          refine Tr.iconst (v := nI 1) dX5_tellAll_67 (icN 1) (Eq.refl 68) ?_
          refine Tr.goto (pc' := 72) dX5_tellAll_68 (by decide) ?_
          refine Tr.iret dX5_tellAll_72 rfl (by first | rfl | exact bI_nar _) ?_ ?_
          · rfl
          · rfl
      · have h37 : z.2.2.2.1 = 0 := (nI_eq_iff (b := 0) (by omega) (by decide)).mp h37
        refine Tr.aload_n (i := 0) dX5_tellAll_40 rfl rfl (Eq.refl 41) ?_
        refine Tr.getf dX5_tellAll_41 fX5_22 rfl rfl (Eq.refl 44) ?_
        refine Tr.getf dX5_tellAll_44 fX5_37 rfl rfl (Eq.refl 47) ?_
        refine Tr.if_eq (tgt := 60) dX5_tellAll_47 (by decide) (Eq.refl 50) (fun h47 => ?_) (fun h47 => ?_)
        · have h47 : tkK T len z.1.1 = 0 := (nI_eq_iff (b := 0) (by omega) (by decide)).mp h47
          rw [if_neg (fun z9 => z9.2 h47)]
          refine Tr.aload_n (i := 0) dX5_tellAll_60 rfl rfl (Eq.refl 61) ?_
          refine Tr.getf dX5_tellAll_61 fX5_26 rfl rfl (Eq.refl 64) ?_
          refine Tr.if_ne (tgt := 71) dX5_tellAll_64 (by decide) (Eq.refl 67) (fun h64 => ?_) (fun h64 => ?_)
          · rw [decide_eq_false (fun z9 => h64 (show nI z.2.2.2.1 = 0 by rw [z9]; rfl))]
            refine Tr.iconst (v := nI 0) dX5_tellAll_71 (icN 0) (Eq.refl 72) ?_
            refine Tr.iret dX5_tellAll_72 rfl (by first | rfl | exact bI_nar _) ?_ ?_
            · rfl
            · rfl
          · rw [decide_eq_true ((nI_eq_iff (b := 0) (by omega) (by decide)).mp h64)]
            refine Tr.iconst (v := nI 1) dX5_tellAll_67 (icN 1) (Eq.refl 68) ?_
            refine Tr.goto (pc' := 72) dX5_tellAll_68 (by decide) ?_
            refine Tr.iret dX5_tellAll_72 rfl (by first | rfl | exact bI_nar _) ?_ ?_
            · rfl
            · rfl
        · have h47 : ¬ tkK T len z.1.1 = 0 := fun z9 => h47 (by rw [z9]; rfl)
          rw [if_pos ⟨h37, h47⟩]
          refine Tr.aload_n (i := 0) dX5_tellAll_50 rfl rfl (Eq.refl 51) ?_
          refine Tr.callVs (hC) dX5_tellAll_51 (kX5_38 (Nat.le_of_ble_eq_true rfl)) iX5_tellClause rfl rfl rfl rfl rfl (tlP_le) rfl rfl (Eq.refl 54) ?_
          refine Tr.iincN dX5_tellAll_54 rfl rfl rfl (Eq.refl 57) ?_
          refine Tr.goto (pc' := 26) dX5_tellAll_57 (by decide) ?_
          exact Tr.eqs rfl rfl rfl ih2
def p0F (len : Nat) : Fin (len + 1) := ⟨0, by omega⟩
/-- a whole text told -/
def tlA (T : Nat → Nat) (len : Nat) (V : Vil) (X : Vix) : Tlt len := tlF T 900 (p0F len, cV V, cX X, 0, -1)
/-- Teller, tape, village: any token in hand -/
def tlR (E : EnvT) (ad : Nat → Nat) (len : Nat) (T : Nat → Nat) (nx kk st nu nm : Nat) (V : Vil) (X : Vix) (fk pl : Int32) : List va_E := (.inr (5, [.ref (ad 1), .ref (ad 3), .int fk, .int pl]) : va_E) :: (tpC E ad 1 len (nI nx, nI kk, nI st, nI nu) (lN nm) T ++ viC E ad 3 V X)
set_option maxHeartbeats 4000000 in
set_option maxRecDepth 100000 in
theorem l_tellAll (E : EnvT) (ad : Nat → Nat) (len : Nat) (T : Nat → Nat) (nx kk st nu nm : Nat) (V : Vil) (X : Vix) (fk pl : Int32) (hl : len ≤ 900) (hT : ∀ k, k < 900 → T k < 256) : Md E mX5_tellAll ad [.ref (ad 0)] (tlR E ad len T nx kk st nu nm V X fk pl) (some (.int (bI (decide ((tlA T len V X).2.2.2.1 = 0))))) (tlP E ad len T (tlA T len V X)) := by
  have hz : Ti (len := len) (p0F len, cV V, cX X, 0, -1) := ⟨⟨Nat.zero_le 5, Nat.zero_le 5⟩, show (0 : Nat) < 6 from by decide⟩
  have hL := l_tellAll_loop E ad len T hl hT 900 0 (p0F len, cV V, cX X, 0, -1) rfl hz
  have hA : tlA T len V X = tlF T 900 (p0F len, cV V, cX X, 0, -1) := rfl
  rw [← hA] at hL
  clear hA
  generalize tlA T len V X = R at *
  refine Md.of 1 (by decide) rfl rfl ?_
  refine Tr.aload_n (i := 0) dX5_tellAll_0 rfl rfl (Eq.refl 1) ?_
  refine Tr.iconst (v := nI 0) dX5_tellAll_1 (icN 0) (Eq.refl 2) ?_
  refine Tr.putf dX5_tellAll_2 pX5_26 rfl (rfl) (rfl) rfl (Eq.refl 5) ?_
  refine Tr.aload_n (i := 0) dX5_tellAll_5 rfl rfl (Eq.refl 6) ?_
  refine Tr.iconst (v := (-1)) dX5_tellAll_6 (by decide +kernel) (Eq.refl 7) ?_
  refine Tr.putf dX5_tellAll_7 pX5_18 rfl (rfl) (rfl) rfl (Eq.refl 10) ?_
  refine Tr.aload_n (i := 0) dX5_tellAll_10 rfl rfl (Eq.refl 11) ?_
  refine Tr.getf dX5_tellAll_11 fX5_12 rfl rfl (Eq.refl 14) ?_
  refine Tr.callV (L := [3, 4, 5, 6, 7, 8, 9, 10, 11, 12, 13]) (v_clear E _ V X) dX5_tellAll_14 (kX5_29 (Nat.le_of_ble_eq_true rfl)) iX7_clear rfl rfl rfl rfl rfl rfl rfl rfl rfl rfl (Eq.refl 17) ?_
  refine Tr.pic (w' := tlR E ad len T nx kk st nu nm (cV V) (cX X) (nI 0) (-1)) (putB_eq (Lc := [0, 1, 2]) 14 rfl rfl rfl rfl ⟨⟨_, rfl, rfl⟩, ⟨_, rfl, rfl⟩, ⟨_, rfl, rfl⟩, trivial⟩ (by decide) rfl) ?_
  refine Tr.aload_n (i := 0) dX5_tellAll_17 rfl rfl (Eq.refl 18) ?_
  refine Tr.getf dX5_tellAll_18 fX5_22 rfl rfl (Eq.refl 21) ?_
  refine Tr.callV (L := [1, 2]) (t_readFirst E _ len nx kk st nu nm T hl hT) dX5_tellAll_21 (kX5_32 (Nat.le_of_ble_eq_true rfl)) iX4_readFirst rfl rfl rfl rfl rfl rfl rfl rfl rfl rfl (Eq.refl 24) ?_
  refine Tr.pic (w' := tlP E ad len T (p0F len, cV V, cX X, 0, -1)) (putB_eq (Lc := [0, 3, 4, 5, 6, 7, 8, 9, 10, 11, 12, 13]) 14 rfl rfl rfl rfl ⟨⟨_, rfl, rfl⟩, ⟨_, rfl, rfl⟩, ⟨_, rfl, rfl⟩, ⟨_, rfl, rfl⟩, ⟨_, rfl, rfl⟩, ⟨_, rfl, rfl⟩, ⟨_, rfl, rfl⟩, ⟨_, rfl, rfl⟩, ⟨_, rfl, rfl⟩, ⟨_, rfl, rfl⟩, ⟨_, rfl, rfl⟩, ⟨_, rfl, rfl⟩, trivial⟩ (by decide) rfl) ?_
  refine Tr.iconst (v := nI 0) dX5_tellAll_24 (icN 0) (Eq.refl 25) ?_
  refine Tr.istore_n (i := 1) dX5_tellAll_25 rfl rfl rfl (Eq.refl 26) ?_
  exact Tr.eqs rfl rfl rfl hL
