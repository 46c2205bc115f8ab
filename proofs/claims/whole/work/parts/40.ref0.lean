/-! THE REFERENCE: its row of ints, its quarter -/
/-- stays, chairs, worth, its house, other last, last: what a trial sets otherwise -/
abbrev Ovr : Type := Int32 × Int32 × Int32 × Int32 × Bool × Bool
/-- the village as it then goes -/
def ovr (V : Vil) (o : Ovr) : Vil := (nhV V, npV V, (if o.2.2.2.2.1 then o.2.2.2.2.2 else laV V), (fun k => if k = 1 then (if o.1 = -1 then ruV V 1 else o.1) else if k = 0 then (if o.2.1 = -1 then ruV V 0 else o.2.1) else ruV V k), (fun h => if o.2.2.2.1 = nI h then o.2.2.1 else woV V h), owV V, hoV V, wkV V, tiV V)
theorem ovr_ok {V : Vil} (o : Ovr) (h : Vok V) : Vok (ovr V o) := h
/-- one row: place, stayed, gain, all, store, worn, lets, plan, passed, chance -/
def rwF (S : Scn) (P : Nat → Nat) (L : Nat → Int32) (a : Nat) (k : Nat) : Int32 :=
  if k < 5 then nI (whS S k) else if k < 10 then sdS S (k - 5) else if k < 15 then ltS S (k - 10) else if k < 20 then alS S (k - 15) else if k < 25 then soS S (k - 20) else if k < 30 then stS S (k - 25) else if k < 35 then L (k - 30) else if k < 55 then nI (P (k - 35)) else if k < 56 then nI (psS S) else if k < 57 then nI a else 0
theorem rd_wh {S : Scn} {P : Nat → Nat} {L : Nat → Int32} {a p : Nat} (h : p < 5) : rwF S P L a (0 + p) = nI (whS S p) := by
  unfold rwF
  rw [if_pos (show 0 + p < 5 by omega)]
  congr 1
  congr 1
  omega
theorem rd_sd {S : Scn} {P : Nat → Nat} {L : Nat → Int32} {a p : Nat} (h : p < 5) : rwF S P L a (5 + p) = sdS S p := by
  unfold rwF
  rw [if_neg (show ¬ 5 + p < 5 by omega), if_pos (show 5 + p < 10 by omega)]
  congr 1
  omega
theorem rd_lt {S : Scn} {P : Nat → Nat} {L : Nat → Int32} {a p : Nat} (h : p < 5) : rwF S P L a (10 + p) = ltS S p := by
  unfold rwF
  rw [if_neg (show ¬ 10 + p < 5 by omega), if_neg (show ¬ 10 + p < 10 by omega), if_pos (show 10 + p < 15 by omega)]
  congr 1
  omega
theorem rd_al {S : Scn} {P : Nat → Nat} {L : Nat → Int32} {a p : Nat} (h : p < 5) : rwF S P L a (15 + p) = alS S p := by
  unfold rwF
  rw [if_neg (show ¬ 15 + p < 5 by omega), if_neg (show ¬ 15 + p < 10 by omega), if_neg (show ¬ 15 + p < 15 by omega), if_pos (show 15 + p < 20 by omega)]
  congr 1
  omega
theorem rd_so {S : Scn} {P : Nat → Nat} {L : Nat → Int32} {a p : Nat} (h : p < 5) : rwF S P L a (20 + p) = soS S p := by
  unfold rwF
  rw [if_neg (show ¬ 20 + p < 5 by omega), if_neg (show ¬ 20 + p < 10 by omega), if_neg (show ¬ 20 + p < 15 by omega), if_neg (show ¬ 20 + p < 20 by omega), if_pos (show 20 + p < 25 by omega)]
  congr 1
  omega
theorem rd_st {S : Scn} {P : Nat → Nat} {L : Nat → Int32} {a p : Nat} (h : p < 5) : rwF S P L a (25 + p) = stS S p := by
  unfold rwF
  rw [if_neg (show ¬ 25 + p < 5 by omega), if_neg (show ¬ 25 + p < 10 by omega), if_neg (show ¬ 25 + p < 15 by omega), if_neg (show ¬ 25 + p < 20 by omega), if_neg (show ¬ 25 + p < 25 by omega), if_pos (show 25 + p < 30 by omega)]
  congr 1
  omega
theorem rd_le {S : Scn} {P : Nat → Nat} {L : Nat → Int32} {a p : Nat} (h : p < 5) : rwF S P L a (30 + p) = L p := by
  unfold rwF
  rw [if_neg (show ¬ 30 + p < 5 by omega), if_neg (show ¬ 30 + p < 10 by omega), if_neg (show ¬ 30 + p < 15 by omega), if_neg (show ¬ 30 + p < 20 by omega), if_neg (show ¬ 30 + p < 25 by omega), if_neg (show ¬ 30 + p < 30 by omega), if_pos (show 30 + p < 35 by omega)]
  congr 1
  omega
theorem rd_pl {S : Scn} {P : Nat → Nat} {L : Nat → Int32} {a p : Nat} (h : p < 20) : rwF S P L a (35 + p) = nI (P p) := by
  unfold rwF
  rw [if_neg (show ¬ 35 + p < 5 by omega), if_neg (show ¬ 35 + p < 10 by omega), if_neg (show ¬ 35 + p < 15 by omega), if_neg (show ¬ 35 + p < 20 by omega), if_neg (show ¬ 35 + p < 25 by omega), if_neg (show ¬ 35 + p < 30 by omega), if_neg (show ¬ 35 + p < 35 by omega), if_pos (show 35 + p < 55 by omega)]
  congr 1
  congr 1
  omega
theorem rd_ps {S : Scn} {P : Nat → Nat} {L : Nat → Int32} {a : Nat} : rwF S P L a 55 = nI (psS S) := rfl
theorem rd_ch {S : Scn} {P : Nat → Nat} {L : Nat → Int32} {a : Nat} : rwF S P L a 56 = nI a := rfl
theorem wr_wh {S : Scn} {P : Nat → Nat} {L : Nat → Int32} {a p : Nat} {x : Nat} (h : p < 5) : upd (rwF S P L a) (0 + p) (nI x) = rwF (psS S, upN (whS S) p x, sdS S, ltS S, alS S, soS S, stS S) P L a := by
  funext k
  by_cases e : k = 0 + p
  · rw [e, upd_self, rd_wh h]
    show _ = nI (upN _ p x p)
    rw [upN_self]
  · rw [upd_ne _ _ e]
    unfold rwF
    repeat' split
    all_goals first | rfl | (show _ = nI (upN _ p x _); rw [upN_ne _ _ (by omega)])
theorem wr_sd {S : Scn} {P : Nat → Nat} {L : Nat → Int32} {a p : Nat} {x : Int32} (h : p < 5) : upd (rwF S P L a) (5 + p) (x) = rwF (psS S, whS S, upd (sdS S) p x, ltS S, alS S, soS S, stS S) P L a := by
  funext k
  by_cases e : k = 5 + p
  · rw [e, upd_self, rd_sd h]
    show _ = upd _ p x p
    rw [upd_self]
  · rw [upd_ne _ _ e]
    unfold rwF
    repeat' split
    all_goals first | rfl | (show _ = upd _ p x _; rw [upd_ne _ _ (by omega)])
theorem wr_lt {S : Scn} {P : Nat → Nat} {L : Nat → Int32} {a p : Nat} {x : Int32} (h : p < 5) : upd (rwF S P L a) (10 + p) (x) = rwF (psS S, whS S, sdS S, upd (ltS S) p x, alS S, soS S, stS S) P L a := by
  funext k
  by_cases e : k = 10 + p
  · rw [e, upd_self, rd_lt h]
    show _ = upd _ p x p
    rw [upd_self]
  · rw [upd_ne _ _ e]
    unfold rwF
    repeat' split
    all_goals first | rfl | (show _ = upd _ p x _; rw [upd_ne _ _ (by omega)])
theorem wr_al {S : Scn} {P : Nat → Nat} {L : Nat → Int32} {a p : Nat} {x : Int32} (h : p < 5) : upd (rwF S P L a) (15 + p) (x) = rwF (psS S, whS S, sdS S, ltS S, upd (alS S) p x, soS S, stS S) P L a := by
  funext k
  by_cases e : k = 15 + p
  · rw [e, upd_self, rd_al h]
    show _ = upd _ p x p
    rw [upd_self]
  · rw [upd_ne _ _ e]
    unfold rwF
    repeat' split
    all_goals first | rfl | (show _ = upd _ p x _; rw [upd_ne _ _ (by omega)])
theorem wr_so {S : Scn} {P : Nat → Nat} {L : Nat → Int32} {a p : Nat} {x : Int32} (h : p < 5) : upd (rwF S P L a) (20 + p) (x) = rwF (psS S, whS S, sdS S, ltS S, alS S, upd (soS S) p x, stS S) P L a := by
  funext k
  by_cases e : k = 20 + p
  · rw [e, upd_self, rd_so h]
    show _ = upd _ p x p
    rw [upd_self]
  · rw [upd_ne _ _ e]
    unfold rwF
    repeat' split
    all_goals first | rfl | (show _ = upd _ p x _; rw [upd_ne _ _ (by omega)])
theorem wr_st {S : Scn} {P : Nat → Nat} {L : Nat → Int32} {a p : Nat} {x : Int32} (h : p < 5) : upd (rwF S P L a) (25 + p) (x) = rwF (psS S, whS S, sdS S, ltS S, alS S, soS S, upd (stS S) p x) P L a := by
  funext k
  by_cases e : k = 25 + p
  · rw [e, upd_self, rd_st h]
    show _ = upd _ p x p
    rw [upd_self]
  · rw [upd_ne _ _ e]
    unfold rwF
    repeat' split
    all_goals first | rfl | (show _ = upd _ p x _; rw [upd_ne _ _ (by omega)])
theorem wr_le {S : Scn} {P : Nat → Nat} {L : Nat → Int32} {a p : Nat} {x : Int32} (h : p < 5) : upd (rwF S P L a) (30 + p) (x) = rwF S P (upd L p x) a := by
  funext k
  by_cases e : k = 30 + p
  · rw [e, upd_self, rd_le h]
    show _ = upd _ p x p
    rw [upd_self]
  · rw [upd_ne _ _ e]
    unfold rwF
    repeat' split
    all_goals first | rfl | (show _ = upd _ p x _; rw [upd_ne _ _ (by omega)])
theorem wr_pl {S : Scn} {P : Nat → Nat} {L : Nat → Int32} {a p : Nat} {x : Nat} (h : p < 20) : upd (rwF S P L a) (35 + p) (nI x) = rwF S (upN P p x) L a := by
  funext k
  by_cases e : k = 35 + p
  · rw [e, upd_self, rd_pl h]
    show _ = nI (upN _ p x p)
    rw [upN_self]
  · rw [upd_ne _ _ e]
    unfold rwF
    repeat' split
    all_goals first | rfl | (show _ = nI (upN _ p x _); rw [upN_ne _ _ (by omega)])
theorem wr_ps {S : Scn} {P : Nat → Nat} {L : Nat → Int32} {a x : Nat} : upd (rwF S P L a) 55 (nI x) = rwF (x, whS S, sdS S, ltS S, alS S, soS S, stS S) P L a := by
  funext k
  by_cases e : k = 55
  · rw [e, upd_self]; rfl
  · rw [upd_ne _ _ e]
    unfold rwF
    repeat' split
    all_goals first | rfl | omega
theorem wr_ch {S : Scn} {P : Nat → Nat} {L : Nat → Int32} {a x : Nat} : upd (rwF S P L a) 56 (nI x) = rwF S P L x := by
  funext k
  by_cases e : k = 56
  · rw [e, upd_self]; rfl
  · rw [upd_ne _ _ e]
    unfold rwF
    repeat' split
    all_goals first | rfl | omega
theorem rd_pl' {S : Scn} {P : Nat → Nat} {L : Nat → Int32} {a p q : Nat} (h : p * 4 + q < 20) : rwF S P L a (35 + 4 * p + q) = nI (P (p * 4 + q)) := by
  rw [show 35 + 4 * p + q = 35 + (p * 4 + q) by omega, rd_pl h]
theorem wr_pl' {S : Scn} {P : Nat → Nat} {L : Nat → Int32} {a p q x : Nat} (h : p * 4 + q < 20) : upd (rwF S P L a) (35 + 4 * p + q) (nI x) = rwF S (upN P (p * 4 + q) x) L a := by
  rw [show 35 + 4 * p + q = 35 + (p * 4 + q) by omega, wr_pl h]
def mqO (ad r : Nat → Nat) (i : Nat → Int32) (V : Vil) (o : Ovr) : va_E := .inr (10, [.ref (r 0), .int (i 1), .int (i 2), .int (i 3), .int (i 4), .int (i 5), .int (i 6), .int (i 7), .int (i 8), .int (i 9), .int (nI (nhV V)), .int (nI (npV V)), .int (i 12), .int (i 13), .int (i 14), .int (i 15), .int (i 16), .int (bI (laV V)), .int (i 18), .ref (ad 1), .ref (r 20), .ref (r 21), .ref (ad 2), .ref (r 23), .ref (ad 3), .ref (ad 4), .ref (ad 5), .ref (ad 6), .ref (r 28), .ref (r 29), .ref (r 30), .ref (r 31), .ref (r 32), .ref (r 33), .ref (r 34), .ref (r 35), .ref (r 36), .int (i 37), .ref (r 38), .ref (r 39), .int (o.1), .int (o.2.1), .int (o.2.2.1), .int (o.2.2.2.1), .int (bI o.2.2.2.2.1), .int (bI o.2.2.2.2.2), .ref (ad 7), .ref (ad 8), .ref (r 48), .ref (r 49), .ref (r 50), .ref (r 51), .int (i 52), .int (i 53), .ref (r 54), .int (i 55), .int (i 56), .ref (r 57), .ref (r 58), .ref (r 59), .int (i 60)])
/-- the cells of a quarter: object, law, worth, owner, home, work, ties, wishes, leaves, row -/
def mqC (E : EnvT) (ad r : Nat → Nat) (i : Nat → Int32) (V : Vil) (o : Ovr) (W : Nat → Nat) (B f : Nat → Int32) : List va_E := [mqO ad r i V o, aI E 6 (ruV V), aI E 5 (woV V), aI E 5 (fun k => cl (owV V k)), aI E 5 (fun k => cl (hoV V k)), aI E 5 (wkV V), aI E 25 (tiV V), aI E 5 (fun k => nI (W k)), aZ E 5 B, aI E 57 f]
set_option maxHeartbeats 4000000 in
set_option maxRecDepth 100000 in
theorem m_after (E : EnvT) (ad r : Nat → Nat) (i : Nat → Int32) (V : Vil) (o : Ovr) (W : Nat → Nat) (B : Nat → Int32) (f : Nat → Int32) : Md E mX10_after ad [.ref (ad 0)] (mqC E ad r i V o W B f) (some (.int (ruV (ovr V o) 1))) (mqC E ad r i V o W B f) := by
  have hx : ruV (ovr V o) 1 = if o.1 = -1 then ruV V 1 else o.1 := rfl
  rw [hx]
  refine Md.of 0 (by decide) rfl rfl ?_
  refine Tr.aload_n (i := 0) dX10_after_0 rfl rfl (Eq.refl 1) ?_
  refine Tr.getf dX10_after_1 fX10_225 rfl rfl (Eq.refl 4) ?_
  refine Tr.iconst (v := (-1)) dX10_after_4 (by decide +kernel) (Eq.refl 5) ?_
  refine Tr.icmp_ne (tgt := 17) dX10_after_5 (by decide) (Eq.refl 8) (fun h5 => ?_) (fun h5 => ?_)
  · rw [if_neg h5]
    refine Tr.aload_n (i := 0) dX10_after_17 rfl rfl (Eq.refl 18) ?_
    refine Tr.getf dX10_after_18 fX10_225 rfl rfl (Eq.refl 21) ?_
    refine Tr.iret dX10_after_21 rfl (by first | rfl | exact bI_nar _) ?_ ?_
    · rfl
    · rfl
  · rw [if_pos h5]
    refine Tr.aload_n (i := 0) dX10_after_8 rfl rfl (Eq.refl 9) ?_
    refine Tr.getf dX10_after_9 fX10_197 rfl rfl (Eq.refl 12) ?_
    refine Tr.iconst (v := nI 1) dX10_after_12 (icN 1) (Eq.refl 13) ?_
    refine Tr.ialdN dX10_after_13 rfl (by omega) (by decide) (Eq.refl 14) ?_
    refine Tr.goto (pc' := 21) dX10_after_14 (by decide) ?_
    refine Tr.iret dX10_after_21 rfl (by first | rfl | exact bI_nar _) ?_ ?_
    · rfl
    · rfl
set_option maxHeartbeats 4000000 in
set_option maxRecDepth 100000 in
theorem m_goesByLast (E : EnvT) (ad r : Nat → Nat) (i : Nat → Int32) (V : Vil) (o : Ovr) (W : Nat → Nat) (B : Nat → Int32) (f : Nat → Int32) : Md E mX10_goesByLast ad [.ref (ad 0)] (mqC E ad r i V o W B f) (some (.int (bI (laV (ovr V o))))) (mqC E ad r i V o W B f) := by
  have hx : laV (ovr V o) = if o.2.2.2.2.1 then o.2.2.2.2.2 else laV V := rfl
  rw [hx]
  refine Md.of 0 (by decide) rfl rfl ?_
  refine Tr.aload_n (i := 0) dX10_goesByLast_0 rfl rfl (Eq.refl 1) ?_
  refine Tr.getf dX10_goesByLast_1 fX10_315 rfl rfl (Eq.refl 4) ?_
  refine Tr.if_eqB (tgt := 14) dX10_goesByLast_4 (by decide) (Eq.refl 7) (fun h4 => ?_) (fun h4 => ?_)
  · rw [if_neg (by rw [h4]; decide)]
    refine Tr.aload_n (i := 0) dX10_goesByLast_14 rfl rfl (Eq.refl 15) ?_
    refine Tr.getf dX10_goesByLast_15 fX10_288 rfl rfl (Eq.refl 18) ?_
    refine Tr.iret dX10_goesByLast_18 rfl (by first | rfl | exact bI_nar _) ?_ ?_
    · rfl
    · rfl
  · rw [if_pos h4]
    refine Tr.aload_n (i := 0) dX10_goesByLast_7 rfl rfl (Eq.refl 8) ?_
    refine Tr.getf dX10_goesByLast_8 fX10_318 rfl rfl (Eq.refl 11) ?_
    refine Tr.goto (pc' := 18) dX10_goesByLast_11 (by decide) ?_
    refine Tr.iret dX10_goesByLast_18 rfl (by first | rfl | exact bI_nar _) ?_ ?_
    · rfl
    · rfl
set_option maxHeartbeats 4000000 in
set_option maxRecDepth 100000 in
theorem m_worthAt (E : EnvT) (ad r : Nat → Nat) (i : Nat → Int32) (V : Vil) (o : Ovr) (W : Nat → Nat) (B : Nat → Int32) (f : Nat → Int32) (h : Nat) (hh : h < 5) : Md E mX10_worthAt ad [.ref (ad 0), .int (nI h)] (mqC E ad r i V o W B f) (some (.int (woV (ovr V o) h))) (mqC E ad r i V o W B f) := by
  have hx : woV (ovr V o) h = if o.2.2.2.1 = nI h then o.2.2.1 else woV V h := rfl
  rw [hx]
  refine Md.of 0 (by decide) rfl rfl ?_
  refine Tr.aload_n (i := 0) dX10_worthAt_0 rfl rfl (Eq.refl 1) ?_
  refine Tr.getf dX10_worthAt_1 fX10_233 rfl rfl (Eq.refl 4) ?_
  refine Tr.iload_n (i := 1) dX10_worthAt_4 rfl rfl (Eq.refl 5) ?_
  refine Tr.icmp_ne (tgt := 20) dX10_worthAt_5 (by decide) (Eq.refl 8) (fun h5 => ?_) (fun h5 => ?_)
  · rw [if_neg h5]
    refine Tr.aload_n (i := 0) dX10_worthAt_20 rfl rfl (Eq.refl 21) ?_
    refine Tr.getf dX10_worthAt_21 fX10_203 rfl rfl (Eq.refl 24) ?_
    refine Tr.iload_n (i := 1) dX10_worthAt_24 rfl rfl (Eq.refl 25) ?_
    refine Tr.ialdN dX10_worthAt_25 rfl (by omega) (by decide) (Eq.refl 26) ?_
    refine Tr.iret dX10_worthAt_26 rfl (by first | rfl | exact bI_nar _) ?_ ?_
    · rfl
    · rfl
  · rw [if_pos h5]
    refine Tr.iload_n (i := 1) dX10_worthAt_8 rfl rfl (Eq.refl 9) ?_
    refine Tr.iconst (v := (-1)) dX10_worthAt_9 (by decide +kernel) (Eq.refl 10) ?_
    refine Tr.icmp_eq (tgt := 20) dX10_worthAt_10 (by decide) (Eq.refl 13) (fun h10 => ?_) (fun h10 => ?_)
    · exact absurd h10 (by rw [← cl_lt hh, cl_none]; omega)
    · refine Tr.aload_n (i := 0) dX10_worthAt_13 rfl rfl (Eq.refl 14) ?_
      refine Tr.getf dX10_worthAt_14 fX10_230 rfl rfl (Eq.refl 17) ?_
      refine Tr.goto (pc' := 26) dX10_worthAt_17 (by decide) ?_
      refine Tr.iret dX10_worthAt_26 rfl (by first | rfl | exact bI_nar _) ?_ ?_
      · rfl
      · rfl
set_option maxHeartbeats 4000000 in
set_option maxRecDepth 100000 in
theorem m_isGuest (E : EnvT) (ad r : Nat → Nat) (i : Nat → Int32) (V : Vil) (o : Ovr) (W : Nat → Nat) (B : Nat → Int32) (S : Scn) (P : Nat → Nat) (L : Nat → Int32) (a : Nat) (p h : Nat) (hV : Vok V) (hp : p < npV V) (hh : h < nhV V) (hS : Sle V S) : Md E mX10_isGuest ad [.ref (ad 0), .ref (ad 9), .int (nI p), .int (nI h)] (mqC E ad r i V o W B (rwF S P L a)) (some (.int (bI (gst V S h p)))) (mqC E ad r i V o W B (rwF S P L a)) := by
  have v1 := hV.1
  have v2 := hV.2.1
  have hw := hS p hp
  refine Md.of 0 (by decide) rfl rfl ?_
  refine Tr.aload_n (i := 1) dX10_isGuest_0 rfl rfl (Eq.refl 1) ?_
  refine Tr.iconst (v := nI 0) dX10_isGuest_1 (icN 0) (Eq.refl 2) ?_
  refine Tr.iload_n (i := 2) dX10_isGuest_2 rfl rfl (Eq.refl 3) ?_
  refine Tr.iaddN dX10_isGuest_3 (Eq.refl 4) ?_
  refine Tr.ialdN dX10_isGuest_4 rfl (by omega) (by decide) (Eq.refl 5) ?_
  refine Tr.top (rd_wh (by omega)) ?_
  refine Tr.iload_n (i := 3) dX10_isGuest_5 rfl rfl (Eq.refl 6) ?_
  refine Tr.icmp_neN (tgt := 23) dX10_isGuest_6 (by decide) (Eq.refl 9) (by omega) (by omega) (fun h6 => ?_) (fun h6 => ?_)
  · refine Tr.iconst (v := nI 0) dX10_isGuest_23 (icN 0) (Eq.refl 24) ?_
    refine Tr.iret dX10_isGuest_24 rfl (by first | rfl | exact bI_nar _) ?_ ?_
    · simp [gst, *]; rfl
    · rfl
  · refine Tr.aload_n (i := 0) dX10_isGuest_9 rfl rfl (Eq.refl 10) ?_
    refine Tr.getf dX10_isGuest_10 fX10_209 rfl rfl (Eq.refl 13) ?_
    refine Tr.iload_n (i := 3) dX10_isGuest_13 rfl rfl (Eq.refl 14) ?_
    refine Tr.ialdN dX10_isGuest_14 rfl (by omega) (by decide) (Eq.refl 15) ?_
    refine Tr.iload_n (i := 2) dX10_isGuest_15 rfl rfl (Eq.refl 16) ?_
    refine Tr.icmp_eq (tgt := 23) dX10_isGuest_16 (by decide) (Eq.refl 19) (fun h16 => ?_) (fun h16 => ?_)
    · rw [cl_eq (by omega)] at h16
      refine Tr.iconst (v := nI 0) dX10_isGuest_23 (icN 0) (Eq.refl 24) ?_
      refine Tr.iret dX10_isGuest_24 rfl (by first | rfl | exact bI_nar _) ?_ ?_
      · simp [gst, *]; rfl
      · rfl
    · rw [cl_eq (by omega)] at h16
      refine Tr.iconst (v := nI 1) dX10_isGuest_19 (icN 1) (Eq.refl 20) ?_
      refine Tr.goto (pc' := 24) dX10_isGuest_20 (by decide) ?_
      refine Tr.iret dX10_isGuest_24 rfl (by first | rfl | exact bI_nar _) ?_ ?_
      · simp [gst, *]; rfl
      · rfl
set_option maxHeartbeats 4000000 in
set_option maxRecDepth 100000 in
theorem m_guests (E : EnvT) (ad r : Nat → Nat) (i : Nat → Int32) (V : Vil) (o : Ovr) (W : Nat → Nat) (B : Nat → Int32) (S : Scn) (P : Nat → Nat) (L : Nat → Int32) (a : Nat) (h : Nat) (hV : Vok V) (hh : h < nhV V) (hS : Sle V S) : Md E mX10_guests ad [.ref (ad 0), .ref (ad 9), .int (nI h)] (mqC E ad r i V o W B (rwF S P L a)) (some (.int (nI (gue V S h)))) (mqC E ad r i V o W B (rwF S P L a)) := by
  have v1 := hV.1
  have v2 := hV.2.1
  refine Md.of 2 (by decide) rfl rfl ?_
  refine Tr.iconst (v := nI 0) dX10_guests_0 (icN 0) (Eq.refl 1) ?_
  refine Tr.istore_n (i := 3) dX10_guests_1 rfl rfl rfl (Eq.refl 2) ?_
  refine Tr.iconst (v := nI 0) dX10_guests_2 (icN 0) (Eq.refl 3) ?_
  refine Tr.istore dX10_guests_3 rfl rfl (Eq.refl 5) ?_
  refine Tr.mask [true, true, true, true, true] (lv' := [some (.ref (ad 0)), some (.ref (ad 9)), some (.int (nI h)), some (.int (nI (guF V S h 0))), some (.int (nI 0))]) rfl ?_
  refine loopD (P := fun j => Tr _ 0 0 5 [some (.ref (ad 0)), some (.ref (ad 9)), some (.int (nI h)), some (.int (nI (guF V S h j))), some (.int (nI j))] [] _) (npV V) ?_ (fun j hj ih => ?_)
  · refine Tr.iload dX10_guests_5 rfl (Eq.refl 7) ?_
    refine Tr.aload_n (i := 0) dX10_guests_7 rfl rfl (Eq.refl 8) ?_
    refine Tr.getf dX10_guests_8 fX10_285 rfl rfl (Eq.refl 11) ?_
    refine Tr.icmp_geN (tgt := 39) dX10_guests_11 (by decide) (Eq.refl 14) (by omega) (by omega) (fun h11 => ?_) (fun h11 => ?_)
    · refine Tr.iload_n (i := 3) dX10_guests_39 rfl rfl (Eq.refl 40) ?_
      refine Tr.iret dX10_guests_40 rfl (by first | rfl | exact bI_nar _) ?_ ?_
      · rfl
      · rfl
    · exact absurd h11 (by omega)
  · have hg := guF_le V S h j
    refine Tr.iload dX10_guests_5 rfl (Eq.refl 7) ?_
    refine Tr.aload_n (i := 0) dX10_guests_7 rfl rfl (Eq.refl 8) ?_
    refine Tr.getf dX10_guests_8 fX10_285 rfl rfl (Eq.refl 11) ?_
    refine Tr.icmp_geN (tgt := 39) dX10_guests_11 (by decide) (Eq.refl 14) (by omega) (by omega) (fun h11 => ?_) (fun h11 => ?_)
    · exact absurd h11 (by omega)
    · refine Tr.iload_n (i := 3) dX10_guests_14 rfl rfl (Eq.refl 15) ?_
      refine Tr.aload_n (i := 0) dX10_guests_15 rfl rfl (Eq.refl 16) ?_
      refine Tr.aload_n (i := 1) dX10_guests_16 rfl rfl (Eq.refl 17) ?_
      refine Tr.iload dX10_guests_17 rfl (Eq.refl 19) ?_
      refine Tr.iload_n (i := 2) dX10_guests_19 rfl rfl (Eq.refl 20) ?_
      refine Tr.callVs (m_isGuest E ad r i V o W B S P L a j h hV hj hh hS) dX10_guests_20 (kX10_321 (Nat.le_of_ble_eq_true rfl)) iX10_isGuest rfl rfl rfl rfl rfl (Nat.le_refl _) rfl rfl (Eq.refl 23) ?_
      refine Tr.if_eqB (tgt := 30) dX10_guests_23 (by decide) (Eq.refl 26) (fun h23 => ?_) (fun h23 => ?_)
      · refine Tr.iconst (v := nI 0) dX10_guests_30 (icN 0) (Eq.refl 31) ?_
        refine Tr.iaddN dX10_guests_31 (Eq.refl 32) ?_
        refine Tr.istore_n (i := 3) dX10_guests_32 rfl rfl rfl (Eq.refl 33) ?_
        refine Tr.iincN dX10_guests_33 rfl rfl rfl (Eq.refl 36) ?_
        refine Tr.goto (pc' := 5) dX10_guests_36 (by decide) ?_
        refine Tr.eqs ?_ rfl rfl ih
        simp [guF, *]
      · refine Tr.iconst (v := nI 1) dX10_guests_26 (icN 1) (Eq.refl 27) ?_
        refine Tr.goto (pc' := 31) dX10_guests_27 (by decide) ?_
        refine Tr.iaddN dX10_guests_31 (Eq.refl 32) ?_
        refine Tr.istore_n (i := 3) dX10_guests_32 rfl rfl rfl (Eq.refl 33) ?_
        refine Tr.iincN dX10_guests_33 rfl rfl rfl (Eq.refl 36) ?_
        refine Tr.goto (pc' := 5) dX10_guests_36 (by decide) ?_
        refine Tr.eqs ?_ rfl rfl ih
        simp [guF, *]
set_option maxHeartbeats 4000000 in
set_option maxRecDepth 100000 in
theorem m_has (E : EnvT) (ad r : Nat → Nat) (i : Nat → Int32) (V : Vil) (o : Ovr) (W : Nat → Nat) (B : Nat → Int32) (S : Scn) (P : Nat → Nat) (L : Nat → Int32) (a : Nat) (h : Nat) (hV : Vok V) (hh : h < nhV V) (hS : Sle V S) : Md E mX10_has ad [.ref (ad 0), .ref (ad 9), .int (nI h)] (mqC E ad r i V o W B (rwF S P L a)) (some (.int (cl (hav (ovr V o) S h)))) (mqC E ad r i V o W B (rwF S P L a)) := by
  have v1 := hV.1
  have v2 := hV.2.1
  have v3 := hV.2.2.1 h hh
  have eg : ∀ p, gst V S h p = gst (ovr V o) S h p := fun _ => rfl
  have eo : owV (ovr V o) = owV V := rfl
  have en : npV (ovr V o) = npV V := rfl
  refine Md.of 5 (by decide) rfl rfl ?_
  refine Tr.iconst (v := (-1)) dX10_has_0 (by decide +kernel) (Eq.refl 1) ?_
  refine Tr.istore_n (i := 3) dX10_has_1 rfl rfl rfl (Eq.refl 2) ?_
  refine Tr.iconst (v := nI 0) dX10_has_2 (icN 0) (Eq.refl 3) ?_
  refine Tr.istore dX10_has_3 rfl rfl (Eq.refl 5) ?_
  refine Tr.mask [true, true, true, true, true, true] (lv' := [some (.ref (ad 0)), some (.ref (ad 9)), some (.int (nI h)), some (.int (cl (hvF (ovr V o) S h 0))), some (.int (nI 0)), none]) rfl ?_
  refine loopD (P := fun j => Tr _ 0 0 5 [some (.ref (ad 0)), some (.ref (ad 9)), some (.int (nI h)), some (.int (cl (hvF (ovr V o) S h j))), some (.int (nI j)), none] [] _) (npV V) ?_ (fun j hj ih => ?_)
  · have hl := hvF_lt (ovr V o) S h (npV V)
    have hx : hav (ovr V o) S h = if hvF (ovr V o) S h (npV V) = 5 ∧ owV V h < 5 ∧ whS S (owV V h) = h then owV V h else hvF (ovr V o) S h (npV V) := rfl
    rw [hx]
    clear hx
    refine Tr.iload dX10_has_5 rfl (Eq.refl 7) ?_
    refine Tr.aload_n (i := 0) dX10_has_7 rfl rfl (Eq.refl 8) ?_
    refine Tr.getf dX10_has_8 fX10_285 rfl rfl (Eq.refl 11) ?_
    refine Tr.icmp_geN (tgt := 105) dX10_has_11 (by decide) (Eq.refl 14) (by omega) (by omega) (fun h11 => ?_) (fun h11 => ?_)
    · refine Tr.iload_n (i := 3) dX10_has_105 rfl rfl (Eq.refl 106) ?_
      refine Tr.iconst (v := (-1)) dX10_has_106 (by decide +kernel) (Eq.refl 107) ?_
      refine Tr.icmp_eq (tgt := 114) dX10_has_107 (by decide) (Eq.refl 110) (fun h107 => ?_) (fun h107 => ?_)
      · rw [cl_none] at h107
        refine Tr.aload_n (i := 0) dX10_has_114 rfl rfl (Eq.refl 115) ?_
        refine Tr.getf dX10_has_115 fX10_209 rfl rfl (Eq.refl 118) ?_
        refine Tr.iload_n (i := 2) dX10_has_118 rfl rfl (Eq.refl 119) ?_
        refine Tr.ialdN dX10_has_119 rfl (by omega) (by decide) (Eq.refl 120) ?_
        refine Tr.iconst (v := (-1)) dX10_has_120 (by decide +kernel) (Eq.refl 121) ?_
        refine Tr.icmp_eq (tgt := 147) dX10_has_121 (by decide) (Eq.refl 124) (fun h121 => ?_) (fun h121 => ?_)
        · rw [cl_none] at h121
          rw [if_neg (by omega), cl_ge (by omega)]
          refine Tr.iconst (v := (-1)) dX10_has_147 (by decide +kernel) (Eq.refl 148) ?_
          refine Tr.iret dX10_has_148 rfl (by first | rfl | exact bI_nar _) ?_ ?_
          · rfl
          · rfl
        · rw [cl_none] at h121
          refine Tr.aload_n (i := 1) dX10_has_124 rfl rfl (Eq.refl 125) ?_
          refine Tr.iconst (v := nI 0) dX10_has_125 (icN 0) (Eq.refl 126) ?_
          refine Tr.aload_n (i := 0) dX10_has_126 rfl rfl (Eq.refl 127) ?_
          refine Tr.getf dX10_has_127 fX10_209 rfl rfl (Eq.refl 130) ?_
          refine Tr.iload_n (i := 2) dX10_has_130 rfl rfl (Eq.refl 131) ?_
          refine Tr.ialdN dX10_has_131 rfl (by omega) (by decide) (Eq.refl 132) ?_
          rw [cl_lt (show owV V h < 5 by omega)]
          refine Tr.iaddN dX10_has_132 (Eq.refl 133) ?_
          refine Tr.ialdN dX10_has_133 rfl (by omega) (by decide) (Eq.refl 134) ?_
          refine Tr.top (rd_wh (by omega)) ?_
          refine Tr.iload_n (i := 2) dX10_has_134 rfl rfl (Eq.refl 135) ?_
          have hw9 := hS (owV V h) (by omega)
          refine Tr.icmp_neN (tgt := 147) dX10_has_135 (by decide) (Eq.refl 138) (by omega) (by omega) (fun h135 => ?_) (fun h135 => ?_)
          · rw [if_neg (by omega), cl_ge (by omega)]
            refine Tr.iconst (v := (-1)) dX10_has_147 (by decide +kernel) (Eq.refl 148) ?_
            refine Tr.iret dX10_has_148 rfl (by first | rfl | exact bI_nar _) ?_ ?_
            · rfl
            · rfl
          · rw [if_pos ⟨by omega, by omega, h135⟩]
            refine Tr.aload_n (i := 0) dX10_has_138 rfl rfl (Eq.refl 139) ?_
            refine Tr.getf dX10_has_139 fX10_209 rfl rfl (Eq.refl 142) ?_
            refine Tr.iload_n (i := 2) dX10_has_142 rfl rfl (Eq.refl 143) ?_
            refine Tr.ialdN dX10_has_143 rfl (by omega) (by decide) (Eq.refl 144) ?_
            refine Tr.goto (pc' := 148) dX10_has_144 (by decide) ?_
            refine Tr.iret dX10_has_148 rfl (by first | rfl | exact bI_nar _) ?_ ?_
            · rfl
            · rfl
      · rw [cl_none] at h107
        rw [if_neg (by omega)]
        refine Tr.iload_n (i := 3) dX10_has_110 rfl rfl (Eq.refl 111) ?_
        refine Tr.goto (pc' := 148) dX10_has_111 (by decide) ?_
        refine Tr.iret dX10_has_148 rfl (by first | rfl | exact bI_nar _) ?_ ?_
        · rfl
        · rfl
    · exact absurd h11 (by omega)
  · have hl := hvF_lt (ovr V o) S h j
    refine Tr.iload dX10_has_5 rfl (Eq.refl 7) ?_
    refine Tr.aload_n (i := 0) dX10_has_7 rfl rfl (Eq.refl 8) ?_
    refine Tr.getf dX10_has_8 fX10_285 rfl rfl (Eq.refl 11) ?_
    refine Tr.icmp_geN (tgt := 105) dX10_has_11 (by decide) (Eq.refl 14) (by omega) (by omega) (fun h11 => ?_) (fun h11 => ?_)
    · exact absurd h11 (by omega)
    · refine Tr.aload_n (i := 0) dX10_has_14 rfl rfl (Eq.refl 15) ?_
      refine Tr.aload_n (i := 1) dX10_has_15 rfl rfl (Eq.refl 16) ?_
      refine Tr.iload dX10_has_16 rfl (Eq.refl 18) ?_
      refine Tr.iload_n (i := 2) dX10_has_18 rfl rfl (Eq.refl 19) ?_
      refine Tr.callVs (m_isGuest E ad r i V o W B S P L a j h hV hj hh hS) dX10_has_19 (kX10_321 (Nat.le_of_ble_eq_true rfl)) iX10_isGuest rfl rfl rfl rfl rfl (Nat.le_refl _) rfl rfl (Eq.refl 22) ?_
      refine Tr.if_eqB (tgt := 99) dX10_has_22 (by decide) (Eq.refl 25) (fun h22 => ?_) (fun h22 => ?_)
      · rw [eg] at h22
        refine Tr.iincN dX10_has_99 rfl rfl rfl (Eq.refl 102) ?_
        refine Tr.goto (pc' := 5) dX10_has_102 (by decide) ?_
        refine Tr.mask [true, true, true, true, true, false] ?_ ih
        simp [lvm, hvF, cnt, ahd, cl_lt (show j < 5 by omega), show ¬ j = 5 by omega, *]
        try exact (cl_lt h43).symm
      · rw [eg] at h22
        refine Tr.aload_n (i := 1) dX10_has_25 rfl rfl (Eq.refl 26) ?_
        refine Tr.iconst (v := nI 5) dX10_has_26 (icN 5) (Eq.refl 27) ?_
        refine Tr.iload dX10_has_27 rfl (Eq.refl 29) ?_
        refine Tr.iaddN dX10_has_29 (Eq.refl 30) ?_
        refine Tr.ialdN dX10_has_30 rfl (by omega) (by decide) (Eq.refl 31) ?_
        refine Tr.top (rd_sd (by omega)) ?_
        refine Tr.aload_n (i := 0) dX10_has_31 rfl rfl (Eq.refl 32) ?_
        refine Tr.callVs (m_after E ad r i V o W B (rwF S P L a)) dX10_has_32 (kX10_325 (Nat.le_of_ble_eq_true rfl)) iX10_after rfl rfl rfl rfl rfl (Nat.le_refl _) rfl rfl (Eq.refl 35) ?_
        refine Tr.icmp_lt (tgt := 41) dX10_has_35 (by decide) (Eq.refl 38) (fun h35 => ?_) (fun h35 => ?_)
        · refine Tr.iload_n (i := 3) dX10_has_41 rfl rfl (Eq.refl 42) ?_
          refine Tr.iconst (v := (-1)) dX10_has_42 (by decide +kernel) (Eq.refl 43) ?_
          refine Tr.icmp_eq (tgt := 84) dX10_has_43 (by decide) (Eq.refl 46) (fun h43 => ?_) (fun h43 => ?_)
          · have h43 : hvF (ovr V o) S h j = 5 := by rw [cl_none] at h43; omega
            refine Tr.iconst (v := nI 1) dX10_has_84 (icN 1) (Eq.refl 85) ?_
            refine Tr.goto (pc' := 89) dX10_has_85 (by decide) ?_
            refine Tr.istore dX10_has_89 rfl rfl (Eq.refl 91) ?_
            refine Tr.iload dX10_has_91 rfl (Eq.refl 93) ?_
            refine Tr.if_eq (tgt := 99) dX10_has_93 (by decide) (Eq.refl 96) (fun h => absurd h (by decide)) (fun _ => ?_)
            refine Tr.iload dX10_has_96 rfl (Eq.refl 98) ?_
            refine Tr.istore_n (i := 3) dX10_has_98 rfl rfl rfl (Eq.refl 99) ?_
            refine Tr.iincN dX10_has_99 rfl rfl rfl (Eq.refl 102) ?_
            refine Tr.goto (pc' := 5) dX10_has_102 (by decide) ?_
            refine Tr.mask [true, true, true, true, true, false] ?_ ih
            simp [lvm, hvF, cnt, ahd, cl_lt (show j < 5 by omega), show ¬ j = 5 by omega, *]
            try exact (cl_lt h43).symm
          · have h43 : hvF (ovr V o) S h j < 5 := by rw [cl_none] at h43; omega
            have h43b : ¬ hvF (ovr V o) S h j = 5 := by omega
            rw [cl_lt h43]
            refine Tr.aload_n (i := 0) dX10_has_46 rfl rfl (Eq.refl 47) ?_
            refine Tr.callVs (m_goesByLast E ad r i V o W B (rwF S P L a)) dX10_has_47 (kX10_327 (Nat.le_of_ble_eq_true rfl)) iX10_goesByLast rfl rfl rfl rfl rfl (Nat.le_refl _) rfl rfl (Eq.refl 50) ?_
            refine Tr.if_eqB (tgt := 70) dX10_has_50 (by decide) (Eq.refl 53) (fun h50 => ?_) (fun h50 => ?_)
            · refine Tr.aload_n (i := 1) dX10_has_70 rfl rfl (Eq.refl 71) ?_
              refine Tr.iconst (v := nI 5) dX10_has_71 (icN 5) (Eq.refl 72) ?_
              refine Tr.iload dX10_has_72 rfl (Eq.refl 74) ?_
              refine Tr.iaddN dX10_has_74 (Eq.refl 75) ?_
              refine Tr.ialdN dX10_has_75 rfl (by omega) (by decide) (Eq.refl 76) ?_
              refine Tr.top (rd_sd (by omega)) ?_
              refine Tr.aload_n (i := 1) dX10_has_76 rfl rfl (Eq.refl 77) ?_
              refine Tr.iconst (v := nI 5) dX10_has_77 (icN 5) (Eq.refl 78) ?_
              refine Tr.iload_n (i := 3) dX10_has_78 rfl rfl (Eq.refl 79) ?_
              refine Tr.iaddN dX10_has_79 (Eq.refl 80) ?_
              refine Tr.ialdN dX10_has_80 rfl (by omega) (by decide) (Eq.refl 81) ?_
              refine Tr.top (rd_sd (by omega)) ?_
              refine Tr.icmp_leL (tgt := 88) dX10_has_81 (by decide) (Eq.refl 84) (fun h81 => ?_) (fun h81 => ?_)
              · refine Tr.iconst (v := nI 0) dX10_has_88 (icN 0) (Eq.refl 89) ?_
                refine Tr.istore dX10_has_89 rfl rfl (Eq.refl 91) ?_
                refine Tr.iload dX10_has_91 rfl (Eq.refl 93) ?_
                refine Tr.if_eq (tgt := 99) dX10_has_93 (by decide) (Eq.refl 96) (fun _ => ?_) (fun h => absurd h (by decide))
                refine Tr.iincN dX10_has_99 rfl rfl rfl (Eq.refl 102) ?_
                refine Tr.goto (pc' := 5) dX10_has_102 (by decide) ?_
                refine Tr.mask [true, true, true, true, true, false] ?_ ih
                simp [lvm, hvF, cnt, ahd, cl_lt (show j < 5 by omega), show ¬ j = 5 by omega, *]
                try exact (cl_lt h43).symm
              · refine Tr.iconst (v := nI 1) dX10_has_84 (icN 1) (Eq.refl 85) ?_
                refine Tr.goto (pc' := 89) dX10_has_85 (by decide) ?_
                refine Tr.istore dX10_has_89 rfl rfl (Eq.refl 91) ?_
                refine Tr.iload dX10_has_91 rfl (Eq.refl 93) ?_
                refine Tr.if_eq (tgt := 99) dX10_has_93 (by decide) (Eq.refl 96) (fun h => absurd h (by decide)) (fun _ => ?_)
                refine Tr.iload dX10_has_96 rfl (Eq.refl 98) ?_
                refine Tr.istore_n (i := 3) dX10_has_98 rfl rfl rfl (Eq.refl 99) ?_
                refine Tr.iincN dX10_has_99 rfl rfl rfl (Eq.refl 102) ?_
                refine Tr.goto (pc' := 5) dX10_has_102 (by decide) ?_
                refine Tr.mask [true, true, true, true, true, false] ?_ ih
                simp [lvm, hvF, cnt, ahd, cl_lt (show j < 5 by omega), show ¬ j = 5 by omega, *]
                try exact (cl_lt h43).symm
            · refine Tr.aload_n (i := 1) dX10_has_53 rfl rfl (Eq.refl 54) ?_
              refine Tr.iconst (v := nI 5) dX10_has_54 (icN 5) (Eq.refl 55) ?_
              refine Tr.iload dX10_has_55 rfl (Eq.refl 57) ?_
              refine Tr.iaddN dX10_has_57 (Eq.refl 58) ?_
              refine Tr.ialdN dX10_has_58 rfl (by omega) (by decide) (Eq.refl 59) ?_
              refine Tr.top (rd_sd (by omega)) ?_
              refine Tr.aload_n (i := 1) dX10_has_59 rfl rfl (Eq.refl 60) ?_
              refine Tr.iconst (v := nI 5) dX10_has_60 (icN 5) (Eq.refl 61) ?_
              refine Tr.iload_n (i := 3) dX10_has_61 rfl rfl (Eq.refl 62) ?_
              refine Tr.iaddN dX10_has_62 (Eq.refl 63) ?_
              refine Tr.ialdN dX10_has_63 rfl (by omega) (by decide) (Eq.refl 64) ?_
              refine Tr.top (rd_sd (by omega)) ?_
              refine Tr.icmp_gt (tgt := 88) dX10_has_64 (by decide) (Eq.refl 67) (fun h64 => ?_) (fun h64 => ?_)
              · refine Tr.iconst (v := nI 0) dX10_has_88 (icN 0) (Eq.refl 89) ?_
                refine Tr.istore dX10_has_89 rfl rfl (Eq.refl 91) ?_
                refine Tr.iload dX10_has_91 rfl (Eq.refl 93) ?_
                refine Tr.if_eq (tgt := 99) dX10_has_93 (by decide) (Eq.refl 96) (fun _ => ?_) (fun h => absurd h (by decide))
                refine Tr.iincN dX10_has_99 rfl rfl rfl (Eq.refl 102) ?_
                refine Tr.goto (pc' := 5) dX10_has_102 (by decide) ?_
                refine Tr.mask [true, true, true, true, true, false] ?_ ih
                simp [lvm, hvF, cnt, ahd, cl_lt (show j < 5 by omega), show ¬ j = 5 by omega, *]
                try exact (cl_lt h43).symm
              · refine Tr.goto (pc' := 84) dX10_has_67 (by decide) ?_
                refine Tr.iconst (v := nI 1) dX10_has_84 (icN 1) (Eq.refl 85) ?_
                refine Tr.goto (pc' := 89) dX10_has_85 (by decide) ?_
                refine Tr.istore dX10_has_89 rfl rfl (Eq.refl 91) ?_
                refine Tr.iload dX10_has_91 rfl (Eq.refl 93) ?_
                refine Tr.if_eq (tgt := 99) dX10_has_93 (by decide) (Eq.refl 96) (fun h => absurd h (by decide)) (fun _ => ?_)
                refine Tr.iload dX10_has_96 rfl (Eq.refl 98) ?_
                refine Tr.istore_n (i := 3) dX10_has_98 rfl rfl rfl (Eq.refl 99) ?_
                refine Tr.iincN dX10_has_99 rfl rfl rfl (Eq.refl 102) ?_
                refine Tr.goto (pc' := 5) dX10_has_102 (by decide) ?_
                refine Tr.mask [true, true, true, true, true, false] ?_ ih
                simp [lvm, hvF, cnt, ahd, cl_lt (show j < 5 by omega), show ¬ j = 5 by omega, *]
                try exact (cl_lt h43).symm
        · refine Tr.goto (pc' := 99) dX10_has_38 (by decide) ?_
          refine Tr.iincN dX10_has_99 rfl rfl rfl (Eq.refl 102) ?_
          refine Tr.goto (pc' := 5) dX10_has_102 (by decide) ?_
          refine Tr.mask [true, true, true, true, true, false] ?_ ih
          simp [lvm, hvF, cnt, ahd, cl_lt (show j < 5 by omega), show ¬ j = 5 by omega, *]
          try exact (cl_lt h43).symm
set_option maxHeartbeats 4000000 in
set_option maxRecDepth 100000 in
theorem m_works (E : EnvT) (ad r : Nat → Nat) (i : Nat → Int32) (V : Vil) (o : Ovr) (W : Nat → Nat) (B : Nat → Int32) (S : Scn) (P : Nat → Nat) (L : Nat → Int32) (a : Nat) (p : Nat) (hV : Vok V) (hp : p < npV V) (ht : psS S < 2 ^ 31) : Md E mX10_works ad [.ref (ad 0), .ref (ad 9), .int (nI p)] (mqC E ad r i V o W B (rwF S P L a)) (some (.int (bI (wkB V p (psS S))))) (mqC E ad r i V o W B (rwF S P L a)) := by
  have v2 := hV.2.1
  refine Md.of 0 (by decide) rfl rfl ?_
  refine Tr.aload_n (i := 0) dX10_works_0 rfl rfl (Eq.refl 1) ?_
  refine Tr.getf dX10_works_1 fX10_215 rfl rfl (Eq.refl 4) ?_
  refine Tr.iload_n (i := 2) dX10_works_4 rfl rfl (Eq.refl 5) ?_
  refine Tr.ialdN dX10_works_5 rfl (by omega) (by decide) (Eq.refl 6) ?_
  refine Tr.aload_n (i := 1) dX10_works_6 rfl rfl (Eq.refl 7) ?_
  refine Tr.bipush (v := nI 55) dX10_works_7 (by decide +kernel) (Eq.refl 9) ?_
  refine Tr.ialdN dX10_works_9 rfl (by omega) (by decide) (Eq.refl 10) ?_
  refine Tr.top (rd_ps) ?_
  refine Tr.iconst (v := nI 4) dX10_works_10 (icN 4) (Eq.refl 11) ?_
  refine Tr.irem dX10_works_11 (by decide +kernel) (Eq.refl 12) ?_
  rw [pk_rem ht (by decide) (by decide)]
  refine Tr.ishr dX10_works_12 (Eq.refl 13) ?_
  refine Tr.iconst (v := nI 1) dX10_works_13 (icN 1) (Eq.refl 14) ?_
  refine Tr.iand dX10_works_14 (Eq.refl 15) ?_
  refine Tr.iconst (v := nI 1) dX10_works_15 (icN 1) (Eq.refl 16) ?_
  refine Tr.icmp_ne (tgt := 23) dX10_works_16 (by decide) (Eq.refl 19) (fun h16 => ?_) (fun h16 => ?_)
  · rw [show wkB V p (psS S) = false from by simp [wkB, bt, h16]]
    refine Tr.iconst (v := nI 0) dX10_works_23 (icN 0) (Eq.refl 24) ?_
    refine Tr.iret dX10_works_24 rfl (by first | rfl | exact bI_nar _) ?_ ?_
    · rfl
    · rfl
  · rw [show wkB V p (psS S) = true from by simp [wkB, bt, h16]]
    refine Tr.iconst (v := nI 1) dX10_works_19 (icN 1) (Eq.refl 20) ?_
    refine Tr.goto (pc' := 24) dX10_works_20 (by decide) ?_
    refine Tr.iret dX10_works_24 rfl (by first | rfl | exact bI_nar _) ?_ ?_
    · rfl
    · rfl
theorem nx_r {a : Nat} (h : a < 2 ^ 31) : (1103515245 * (nI a).toInt64 + 12345 : Int64) - (1103515245 * (nI a).toInt64 + 12345 : Int64) / 2147483648 * 2147483648 = lN (nxS a) := by
  rw [nI_l h, show (1103515245 : Int64) = lN 1103515245 from rfl, show (12345 : Int64) = lN 12345 from rfl, show (2147483648 : Int64) = lN 2147483648 from rfl, lN_mul, lN_add, pk_lRem (by omega) (by decide) (by decide)]
  rfl
theorem lN_ne0 {n : Nat} (h0 : 0 < n) (h : n < 2 ^ 63) : ¬ lN n = 0 := fun q => absurd ((pk_lEQ (b := 0) h (by decide)).mp q) (by omega)
set_option maxHeartbeats 4000000 in
set_option maxRecDepth 100000 in
theorem m_draw (E : EnvT) (ad : Nat → Nat) (S : Scn) (P : Nat → Nat) (L : Nat → Int32) (a n : Nat) (ha : a < 2 ^ 31) (h0 : 0 < n) (hn : n < 2 ^ 31) : Md E mX10_draw ad [.ref (ad 0), .int (nI n)] [aI E 57 (rwF S P L a)] (some (.int (nI (nxS a / 65536 % n)))) [aI E 57 (rwF S P L (nxS a))] := by
  have hx := nxS_lt a
  refine Md.of 2 (by decide) rfl rfl ?_
  refine Tr.ldc2 dX10_draw_0 qX10_330 (Eq.refl 3) ?_
  refine Tr.aload_n (i := 0) dX10_draw_3 rfl rfl (Eq.refl 4) ?_
  refine Tr.bipush (v := nI 56) dX10_draw_4 (by decide +kernel) (Eq.refl 6) ?_
  refine Tr.ialdN dX10_draw_6 rfl (by omega) (by decide) (Eq.refl 7) ?_
  refine Tr.top (rd_ch) ?_
  refine Tr.i2l dX10_draw_7 rfl (Eq.refl 8) ?_
  refine Tr.lmul dX10_draw_8 (Eq.refl 9) ?_
  refine Tr.ldc2 dX10_draw_9 qX10_332 (Eq.refl 12) ?_
  refine Tr.ladd dX10_draw_12 (Eq.refl 13) ?_
  refine Tr.ldc2 dX10_draw_13 qX10_334 (Eq.refl 16) ?_
  refine Tr.lrem dX10_draw_16 (by decide +kernel) (Eq.refl 17) ?_
  rw [nx_r ha]
  refine Tr.lstore_n (i := 2) dX10_draw_17 rfl rfl rfl (Eq.refl 18) ?_
  refine Tr.aload_n (i := 0) dX10_draw_18 rfl rfl (Eq.refl 19) ?_
  refine Tr.bipush (v := nI 56) dX10_draw_19 (by decide +kernel) (Eq.refl 21) ?_
  refine Tr.lload_n (i := 2) dX10_draw_21 rfl rfl (Eq.refl 22) ?_
  refine Tr.l2i dX10_draw_22 rfl (Eq.refl 23) ?_
  rw [lN_i]
  refine Tr.iastN dX10_draw_23 rfl (by omega) (by decide) (Eq.refl 24) ?_
  refine Tr.pic (w' := [aI E 57 (rwF S P L (nxS a))]) (by rw [show rwF S P L (nxS a) = upd (rwF S P L a) 56 (nI (nxS a)) from wr_ch.symm]; rfl) ?_
  refine Tr.lload_n (i := 2) dX10_draw_24 rfl rfl (Eq.refl 25) ?_
  refine Tr.ldc2 dX10_draw_25 qX10_336 (Eq.refl 28) ?_
  refine Tr.ldiv dX10_draw_28 (by decide +kernel) (Eq.refl 29) ?_
  rw [show (65536 : Int64) = lN 65536 from rfl, pk_lDiv (by omega) (by decide) (by decide)]
  refine Tr.iload_n (i := 1) dX10_draw_29 rfl rfl (Eq.refl 30) ?_
  refine Tr.i2l dX10_draw_30 rfl (Eq.refl 31) ?_
  rw [nI_l hn]
  refine Tr.lrem dX10_draw_31 (lN_ne0 h0 (by omega)) (Eq.refl 32) ?_
  rw [pk_lRem (by omega) h0 (by omega)]
  refine Tr.l2i dX10_draw_32 rfl (Eq.refl 33) ?_
  rw [lN_i]
  refine Tr.iret dX10_draw_33 rfl (by first | rfl | exact bI_nar _) ?_ ?_
  · rfl
  · rfl
set_option maxHeartbeats 4000000 in
set_option maxRecDepth 100000 in
theorem m_planWishes (E : EnvT) (ad r : Nat → Nat) (i : Nat → Int32) (V : Vil) (o : Ovr) (W : Nat → Nat) (B : Nat → Int32) (S : Scn) (P : Nat → Nat) (L : Nat → Int32) (a : Nat) (hV : Vok V) (ht : psS S < 2 ^ 31) : Md E mX10_planWishes ad [.ref (ad 0), .ref (ad 9)] (mqC E ad r i V o W B (rwF S P L a)) none (mqC E ad r i V o (fwF V P (psS S) W (npV V)) B (rwF S P L a)) := by
  have v2 := hV.2.1
  refine Md.of 1 (by decide) rfl rfl ?_
  refine Tr.iconst (v := nI 0) dX10_planWishes_0 (icN 0) (Eq.refl 1) ?_
  refine Tr.istore_n (i := 2) dX10_planWishes_1 rfl rfl rfl (Eq.refl 2) ?_
  refine Tr.mask [true, true, true] (lv' := [some (.ref (ad 0)), some (.ref (ad 9)), some (.int (nI 0))]) rfl ?_
  refine loopD (P := fun j => Tr _ 0 0 2 [some (.ref (ad 0)), some (.ref (ad 9)), some (.int (nI j))] [] (mqC E ad r i V o (fwF V P (psS S) W j) B (rwF S P L a))) (npV V) ?_ (fun j hj ih => ?_)
  · refine Tr.iload_n (i := 2) dX10_planWishes_2 rfl rfl (Eq.refl 3) ?_
    refine Tr.aload_n (i := 0) dX10_planWishes_3 rfl rfl (Eq.refl 4) ?_
    refine Tr.getf dX10_planWishes_4 fX10_285 rfl rfl (Eq.refl 7) ?_
    refine Tr.icmp_geN (tgt := 50) dX10_planWishes_7 (by decide) (Eq.refl 10) (by omega) (by omega) (fun h7 => ?_) (fun h7 => ?_)
    · refine Tr.ret dX10_planWishes_50 rfl rfl ?_
      · rfl
    · exact absurd h7 (by omega)
  · have hu : fwF V P (psS S) W (j + 1) = upN (fwF V P (psS S) W j) j (if wkB V j (psS S) then 5 else P (j * 4 + psS S % 4)) := rfl
    rw [hu] at ih
    clear hu
    generalize fwF V P (psS S) W j = W2 at *
    refine Tr.iload_n (i := 2) dX10_planWishes_2 rfl rfl (Eq.refl 3) ?_
    refine Tr.aload_n (i := 0) dX10_planWishes_3 rfl rfl (Eq.refl 4) ?_
    refine Tr.getf dX10_planWishes_4 fX10_285 rfl rfl (Eq.refl 7) ?_
    refine Tr.icmp_geN (tgt := 50) dX10_planWishes_7 (by decide) (Eq.refl 10) (by omega) (by omega) (fun h7 => ?_) (fun h7 => ?_)
    · exact absurd h7 (by omega)
    · refine Tr.aload_n (i := 0) dX10_planWishes_10 rfl rfl (Eq.refl 11) ?_
      refine Tr.getf dX10_planWishes_11 fX10_236 rfl rfl (Eq.refl 14) ?_
      refine Tr.iload_n (i := 2) dX10_planWishes_14 rfl rfl (Eq.refl 15) ?_
      refine Tr.aload_n (i := 0) dX10_planWishes_15 rfl rfl (Eq.refl 16) ?_
      refine Tr.aload_n (i := 1) dX10_planWishes_16 rfl rfl (Eq.refl 17) ?_
      refine Tr.iload_n (i := 2) dX10_planWishes_17 rfl rfl (Eq.refl 18) ?_
      refine Tr.callVs (m_works E ad r i V o W2 B S P L a j hV hj ht) dX10_planWishes_18 (kX10_338 (Nat.le_of_ble_eq_true rfl)) iX10_works rfl rfl rfl rfl rfl (Nat.le_refl _) rfl rfl (Eq.refl 21) ?_
      refine Tr.if_eqB (tgt := 28) dX10_planWishes_21 (by decide) (Eq.refl 24) (fun h21 => ?_) (fun h21 => ?_)
      · rw [if_neg (by rw [h21]; decide)] at ih
        refine Tr.aload_n (i := 1) dX10_planWishes_28 rfl rfl (Eq.refl 29) ?_
        refine Tr.bipush (v := nI 35) dX10_planWishes_29 (by decide +kernel) (Eq.refl 31) ?_
        refine Tr.iconst (v := nI 4) dX10_planWishes_31 (icN 4) (Eq.refl 32) ?_
        refine Tr.iload_n (i := 2) dX10_planWishes_32 rfl rfl (Eq.refl 33) ?_
        refine Tr.imulN dX10_planWishes_33 (Eq.refl 34) ?_
        refine Tr.iaddN dX10_planWishes_34 (Eq.refl 35) ?_
        refine Tr.aload_n (i := 1) dX10_planWishes_35 rfl rfl (Eq.refl 36) ?_
        refine Tr.bipush (v := nI 55) dX10_planWishes_36 (by decide +kernel) (Eq.refl 38) ?_
        refine Tr.ialdN dX10_planWishes_38 rfl (by omega) (by decide) (Eq.refl 39) ?_
        refine Tr.top (rd_ps) ?_
        refine Tr.iconst (v := nI 4) dX10_planWishes_39 (icN 4) (Eq.refl 40) ?_
        refine Tr.irem dX10_planWishes_40 (by decide +kernel) (Eq.refl 41) ?_
        rw [pk_rem ht (by decide) (by decide)]
        refine Tr.iaddN dX10_planWishes_41 (Eq.refl 42) ?_
        refine Tr.ialdN dX10_planWishes_42 rfl (by omega) (by decide) (Eq.refl 43) ?_
        refine Tr.top (rd_pl' (by omega)) ?_
        refine Tr.iastN dX10_planWishes_43 rfl (by omega) (by decide) (Eq.refl 44) ?_
        refine Tr.iincN dX10_planWishes_44 rfl rfl rfl (Eq.refl 47) ?_
        refine Tr.goto (pc' := 2) dX10_planWishes_47 (by decide) ?_
        exact Tr.eqs rfl rfl (by unfold mqC; rw [nI_upN]; rfl) ih
      · rw [if_pos h21] at ih
        refine Tr.iconst (v := nI 5) dX10_planWishes_24 (icN 5) (Eq.refl 25) ?_
        refine Tr.goto (pc' := 43) dX10_planWishes_25 (by decide) ?_
        refine Tr.iastN dX10_planWishes_43 rfl (by omega) (by decide) (Eq.refl 44) ?_
        refine Tr.iincN dX10_planWishes_44 rfl rfl rfl (Eq.refl 47) ?_
        refine Tr.goto (pc' := 2) dX10_planWishes_47 (by decide) ?_
        exact Tr.eqs rfl rfl (by unfold mqC; rw [nI_upN]; rfl) ih
set_option maxHeartbeats 4000000 in
set_option maxRecDepth 100000 in
theorem m_strolls (E : EnvT) (ad r : Nat → Nat) (i : Nat → Int32) (V : Vil) (o : Ovr) (W : Nat → Nat) (B : Nat → Int32) (S : Scn) (P : Nat → Nat) (L : Nat → Int32) (a : Nat) (hV : Vok V) (ht : psS S < 2 ^ 31) (ha : a < 2 ^ 31) : Md E mX10_strolls ad [.ref (ad 0), .ref (ad 9)] (mqC E ad r i V o W B (rwF S P L a)) none (mqC E ad r i V o (if nI 0 < ruV V 5 then skF V (psS S) a W (npV V) else (a, W)).2 B (rwF S P L (if nI 0 < ruV V 5 then skF V (psS S) a W (npV V) else (a, W)).1)) := by
  have v1 := hV.1
  have v2 := hV.2.1
  by_cases h5 : nI 0 < ruV V 5
  · rw [if_pos h5]
    refine Md.of 2 (by decide) rfl rfl ?_
    refine Tr.iconst (v := nI 0) dX10_strolls_0 (icN 0) (Eq.refl 1) ?_
    refine Tr.istore_n (i := 2) dX10_strolls_1 rfl rfl rfl (Eq.refl 2) ?_
    refine Tr.mask [true, true, true, true] (lv' := [some (.ref (ad 0)), some (.ref (ad 9)), some (.int (nI 0)), none]) rfl ?_
    refine loopD (P := fun j => Tr _ 0 0 2 [some (.ref (ad 0)), some (.ref (ad 9)), some (.int (nI j)), none] [] (mqC E ad r i V o (skF V (psS S) a W j).2 B (rwF S P L (skF V (psS S) a W j).1))) (npV V) ?_ (fun j hj ih => ?_)
    · refine Tr.iload_n (i := 2) dX10_strolls_2 rfl rfl (Eq.refl 3) ?_
      refine Tr.aload_n (i := 0) dX10_strolls_3 rfl rfl (Eq.refl 4) ?_
      refine Tr.getf dX10_strolls_4 fX10_285 rfl rfl (Eq.refl 7) ?_
      refine Tr.icmp_geN (tgt := 82) dX10_strolls_7 (by decide) (Eq.refl 10) (by omega) (by omega) (fun h7 => ?_) (fun h7 => ?_)
      · refine Tr.ret dX10_strolls_82 rfl rfl ?_
        · rfl
      · exact absurd h7 (by omega)
    · have hu : skF V (psS S) a W (j + 1) = skStep V (psS S) (skF V (psS S) a W j) j := rfl
      have hq := skF_lt (V := V) (t := psS S) (W := W) ha j
      rw [hu] at ih
      clear hu
      generalize skF V (psS S) a W j = q at *
      obtain ⟨a1, W1⟩ := q
      have hq : a1 < 2 ^ 31 := hq
      have hu : skStep V (psS S) (a1, W1) j = if nI (nxS a1 / 65536 % 100) < ruV V 5 ∧ wkB V j (psS S) = false then (nxS (nxS a1), upN W1 j (if nxS (nxS a1) / 65536 % (nhV V + 1) < nhV V then nxS (nxS a1) / 65536 % (nhV V + 1) else 5)) else (nxS a1, W1) := rfl
      rw [hu] at ih
      clear hu
      show Tr _ 0 0 2 _ _ (mqC E ad r i V o W1 B (rwF S P L a1))
      have hz := Nat.mod_lt (nxS (nxS a1) / 65536) (show nhV V + 1 > 0 by omega)
      refine Tr.iload_n (i := 2) dX10_strolls_2 rfl rfl (Eq.refl 3) ?_
      refine Tr.aload_n (i := 0) dX10_strolls_3 rfl rfl (Eq.refl 4) ?_
      refine Tr.getf dX10_strolls_4 fX10_285 rfl rfl (Eq.refl 7) ?_
      refine Tr.icmp_geN (tgt := 82) dX10_strolls_7 (by decide) (Eq.refl 10) (by omega) (by omega) (fun h7 => ?_) (fun h7 => ?_)
      · exact absurd h7 (by omega)
      · refine Tr.aload_n (i := 0) dX10_strolls_10 rfl rfl (Eq.refl 11) ?_
        refine Tr.getf dX10_strolls_11 fX10_197 rfl rfl (Eq.refl 14) ?_
        refine Tr.iconst (v := nI 5) dX10_strolls_14 (icN 5) (Eq.refl 15) ?_
        refine Tr.ialdN dX10_strolls_15 rfl (by omega) (by decide) (Eq.refl 16) ?_
        refine Tr.if_leL (tgt := 82) dX10_strolls_16 (by decide) (Eq.refl 19) (fun h16 => ?_) (fun h16 => ?_)
        · exact absurd h5 (by rw [nI_0]; exact h16)
        · refine Tr.aload_n (i := 1) dX10_strolls_19 rfl rfl (Eq.refl 20) ?_
          refine Tr.bipush (v := nI 100) dX10_strolls_20 (by decide +kernel) (Eq.refl 22) ?_
          refine Tr.callS (L := [9]) (m_draw E _ S P L a1 100 hq (by decide) (by decide)) dX10_strolls_22 (kX10_342 (Nat.le_of_ble_eq_true rfl)) sX10_draw rfl rfl rfl rfl rfl rfl rfl rfl (Eq.refl 25) ?_
          refine Tr.pic (w' := mqC E ad r i V o W1 B (rwF S P L (nxS a1))) (putB_eq (Lc := [0, 1, 2, 3, 4, 5, 6, 7, 8]) 10 rfl rfl rfl rfl ⟨⟨_, rfl, rfl⟩, ⟨_, rfl, rfl⟩, ⟨_, rfl, rfl⟩, ⟨_, rfl, rfl⟩, ⟨_, rfl, rfl⟩, ⟨_, rfl, rfl⟩, ⟨_, rfl, rfl⟩, ⟨_, rfl, rfl⟩, ⟨_, rfl, rfl⟩, trivial⟩ (by decide) rfl) ?_
          refine Tr.aload_n (i := 0) dX10_strolls_25 rfl rfl (Eq.refl 26) ?_
          refine Tr.getf dX10_strolls_26 fX10_197 rfl rfl (Eq.refl 29) ?_
          refine Tr.iconst (v := nI 5) dX10_strolls_29 (icN 5) (Eq.refl 30) ?_
          refine Tr.ialdN dX10_strolls_30 rfl (by omega) (by decide) (Eq.refl 31) ?_
          refine Tr.icmp_geL (tgt := 76) dX10_strolls_31 (by decide) (Eq.refl 34) (fun h31 => ?_) (fun h31 => ?_)
          · rw [if_neg (fun z9 => h31 z9.1)] at ih
            refine Tr.iincN dX10_strolls_76 rfl rfl rfl (Eq.refl 79) ?_
            refine Tr.goto (pc' := 2) dX10_strolls_79 (by decide) ?_
            exact Tr.mask [true, true, true, false] rfl ih
          · refine Tr.aload_n (i := 0) dX10_strolls_34 rfl rfl (Eq.refl 35) ?_
            refine Tr.aload_n (i := 1) dX10_strolls_35 rfl rfl (Eq.refl 36) ?_
            refine Tr.iload_n (i := 2) dX10_strolls_36 rfl rfl (Eq.refl 37) ?_
            refine Tr.callVs (m_works E ad r i V o W1 B S P L (nxS a1) j hV hj ht) dX10_strolls_37 (kX10_338 (Nat.le_of_ble_eq_true rfl)) iX10_works rfl rfl rfl rfl rfl (Nat.le_refl _) rfl rfl (Eq.refl 40) ?_
            refine Tr.if_eqB (tgt := 46) dX10_strolls_40 (by decide) (Eq.refl 43) (fun h40 => ?_) (fun h40 => ?_)
            · rw [if_pos ⟨h31, h40⟩] at ih
              refine Tr.aload_n (i := 1) dX10_strolls_46 rfl rfl (Eq.refl 47) ?_
              refine Tr.aload_n (i := 0) dX10_strolls_47 rfl rfl (Eq.refl 48) ?_
              refine Tr.getf dX10_strolls_48 fX10_282 rfl rfl (Eq.refl 51) ?_
              refine Tr.iconst (v := nI 1) dX10_strolls_51 (icN 1) (Eq.refl 52) ?_
              refine Tr.iaddN dX10_strolls_52 (Eq.refl 53) ?_
              refine Tr.callS (L := [9]) (m_draw E _ S P L (nxS a1) (nhV V + 1) (nxS_lt a1) (by omega) (by omega)) dX10_strolls_53 (kX10_342 (Nat.le_of_ble_eq_true rfl)) sX10_draw rfl rfl rfl rfl rfl rfl rfl rfl (Eq.refl 56) ?_
              refine Tr.pic (w' := mqC E ad r i V o W1 B (rwF S P L (nxS (nxS a1)))) (putB_eq (Lc := [0, 1, 2, 3, 4, 5, 6, 7, 8]) 10 rfl rfl rfl rfl ⟨⟨_, rfl, rfl⟩, ⟨_, rfl, rfl⟩, ⟨_, rfl, rfl⟩, ⟨_, rfl, rfl⟩, ⟨_, rfl, rfl⟩, ⟨_, rfl, rfl⟩, ⟨_, rfl, rfl⟩, ⟨_, rfl, rfl⟩, ⟨_, rfl, rfl⟩, trivial⟩ (by decide) rfl) ?_
              generalize nxS (nxS a1) / 65536 % (nhV V + 1) = d at *
              refine Tr.istore_n (i := 3) dX10_strolls_56 rfl rfl rfl (Eq.refl 57) ?_
              refine Tr.aload_n (i := 0) dX10_strolls_57 rfl rfl (Eq.refl 58) ?_
              refine Tr.getf dX10_strolls_58 fX10_236 rfl rfl (Eq.refl 61) ?_
              refine Tr.iload_n (i := 2) dX10_strolls_61 rfl rfl (Eq.refl 62) ?_
              refine Tr.iload_n (i := 3) dX10_strolls_62 rfl rfl (Eq.refl 63) ?_
              refine Tr.aload_n (i := 0) dX10_strolls_63 rfl rfl (Eq.refl 64) ?_
              refine Tr.getf dX10_strolls_64 fX10_282 rfl rfl (Eq.refl 67) ?_
              refine Tr.icmp_neN (tgt := 74) dX10_strolls_67 (by decide) (Eq.refl 70) (by omega) (by omega) (fun h67 => ?_) (fun h67 => ?_)
              · rw [if_pos (by omega)] at ih
                refine Tr.iload_n (i := 3) dX10_strolls_74 rfl rfl (Eq.refl 75) ?_
                refine Tr.iastN dX10_strolls_75 rfl (by omega) (by decide) (Eq.refl 76) ?_
                refine Tr.pic (w' := mqC E ad r i V o (upN W1 j _) B (rwF S P L (nxS (nxS a1)))) (by unfold mqC; rw [nI_upN]; rfl) ?_
                refine Tr.iincN dX10_strolls_76 rfl rfl rfl (Eq.refl 79) ?_
                refine Tr.goto (pc' := 2) dX10_strolls_79 (by decide) ?_
                exact Tr.mask [true, true, true, false] rfl ih
              · rw [if_neg (by omega)] at ih
                refine Tr.iconst (v := nI 5) dX10_strolls_70 (icN 5) (Eq.refl 71) ?_
                refine Tr.goto (pc' := 75) dX10_strolls_71 (by decide) ?_
                refine Tr.iastN dX10_strolls_75 rfl (by omega) (by decide) (Eq.refl 76) ?_
                refine Tr.pic (w' := mqC E ad r i V o (upN W1 j _) B (rwF S P L (nxS (nxS a1)))) (by unfold mqC; rw [nI_upN]; rfl) ?_
                refine Tr.iincN dX10_strolls_76 rfl rfl rfl (Eq.refl 79) ?_
                refine Tr.goto (pc' := 2) dX10_strolls_79 (by decide) ?_
                exact Tr.mask [true, true, true, false] rfl ih
            · rw [if_neg (fun z9 => absurd (h40.symm.trans z9.2) (by decide))] at ih
              refine Tr.goto (pc' := 76) dX10_strolls_43 (by decide) ?_
              refine Tr.iincN dX10_strolls_76 rfl rfl rfl (Eq.refl 79) ?_
              refine Tr.goto (pc' := 2) dX10_strolls_79 (by decide) ?_
              exact Tr.mask [true, true, true, false] rfl ih
  · rw [if_neg h5]
    refine Md.of 2 (by decide) rfl rfl ?_
    refine Tr.iconst (v := nI 0) dX10_strolls_0 (icN 0) (Eq.refl 1) ?_
    refine Tr.istore_n (i := 2) dX10_strolls_1 rfl rfl rfl (Eq.refl 2) ?_
    refine Tr.iload_n (i := 2) dX10_strolls_2 rfl rfl (Eq.refl 3) ?_
    refine Tr.aload_n (i := 0) dX10_strolls_3 rfl rfl (Eq.refl 4) ?_
    refine Tr.getf dX10_strolls_4 fX10_285 rfl rfl (Eq.refl 7) ?_
    refine Tr.icmp_geN (tgt := 82) dX10_strolls_7 (by decide) (Eq.refl 10) (by omega) (by omega) (fun h7 => ?_) (fun h7 => ?_)
    · refine Tr.ret dX10_strolls_82 rfl rfl ?_
      · rfl
    · refine Tr.aload_n (i := 0) dX10_strolls_10 rfl rfl (Eq.refl 11) ?_
      refine Tr.getf dX10_strolls_11 fX10_197 rfl rfl (Eq.refl 14) ?_
      refine Tr.iconst (v := nI 5) dX10_strolls_14 (icN 5) (Eq.refl 15) ?_
      refine Tr.ialdN dX10_strolls_15 rfl (by omega) (by decide) (Eq.refl 16) ?_
      refine Tr.if_leL (tgt := 82) dX10_strolls_16 (by decide) (Eq.refl 19) (fun h16 => ?_) (fun h16 => ?_)
      · refine Tr.ret dX10_strolls_82 rfl rfl ?_
        · rfl
      · exact absurd h16 (by rw [← nI_0]; exact h5)
