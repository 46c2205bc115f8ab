/-! THE REFERENCE: slots, what a text told, the tape -/
theorem rgB_e {x a b : Int32} : rgB x a b = (!decide (x < a) && !decide (b < x)) := rfl
def mkO (ad r : Nat → Nat) (i : Nat → Int32) : va_E := .inr (10, [.ref (r 0), .int (i 1), .int (i 2), .int (i 3), .int (i 4), .int (i 5), .int (i 6), .int (i 7), .int (i 8), .int (i 9), .int (i 10), .int (i 11), .int (i 12), .int (i 13), .int (i 14), .int (i 15), .int (i 16), .int (i 17), .int (i 18), .ref (r 19), .ref (r 20), .ref (r 21), .ref (r 22), .ref (r 23), .ref (r 24), .ref (r 25), .ref (r 26), .ref (r 27), .ref (r 28), .ref (r 29), .ref (r 30), .ref (r 31), .ref (r 32), .ref (r 33), .ref (r 34), .ref (r 35), .ref (r 36), .int (i 37), .ref (ad 1), .ref (r 39), .int (i 40), .int (i 41), .int (i 42), .int (i 43), .int (i 44), .int (i 45), .ref (r 46), .ref (r 47), .ref (ad 2), .ref (ad 3), .ref (r 50), .ref (r 51), .int (i 52), .int (i 53), .ref (r 54), .int (i 55), .int (i 56), .ref (r 57), .ref (r 58), .ref (r 59), .int (i 60)])
def mkC (E : EnvT) (ad r : Nat → Nat) (i : Nat → Int32) (g K : Nat → Int32) (kb : Nat → Bool) : List va_E := [mkO ad r i, aI E 57 g, aI E 171 K, aZ E 3 (fun k => bI (kb k))]
def upB (f : Nat → Bool) (k : Nat) (x : Bool) : Nat → Bool := fun j => if j = k then x else f j
theorem bI_upB (f : Nat → Bool) (k : Nat) (x : Bool) : (fun j => bI (upB f k x j)) = upd (fun j => bI (f j)) k (bI x) := by
  funext j
  by_cases h : j = k <;> simp [upB, upd, h]
set_option maxHeartbeats 4000000 in
set_option maxRecDepth 100000 in
theorem m_isSlot (E : EnvT) (ad : Nat → Nat) (x : Int32) : Md E mX10_isSlot ad [.int x] [] (some (.int (bI (rgB x (nI 0) (nI 2))))) [] := by
  refine Md.of 0 (by decide) rfl rfl ?_
  refine Tr.iload_n (i := 0) dX10_isSlot_0 rfl rfl (Eq.refl 1) ?_
  refine Tr.i2l dX10_isSlot_1 rfl (Eq.refl 2) ?_
  refine Tr.lconst (v := 0) dX10_isSlot_2 (by decide +kernel) (Eq.refl 3) ?_
  refine Tr.ldc2 dX10_isSlot_3 qX10_297 (Eq.refl 6) ?_
  refine Tr.callSr (L := []) (m_in E _ x.toInt64 0 2) dX10_isSlot_6 (kX10_52 (Nat.le_of_ble_eq_true rfl)) sX10_in rfl rfl rfl rfl rfl rfl rfl (Eq.refl 9) ?_
  rw [in32' x (a := nI 0) (b := nI 2) (by decide) (by decide)]
  refine Tr.iret dX10_isSlot_9 rfl (by first | rfl | exact bI_nar _) ?_ ?_
  · rfl
  · rfl
/-- a row kept in a slot -/
def ksF (g K : Nat → Int32) (s : Nat) : Nat → Nat → Int32
  | 0 => K
  | j + 1 => upd (ksF g K s j) (57 * s + j) (g j)
set_option maxHeartbeats 4000000 in
set_option maxRecDepth 100000 in
theorem m_keep (E : EnvT) (ad r : Nat → Nat) (i : Nat → Int32) (K : Nat → Int32) (kb : Nat → Bool) (S : Scn) (P : Nat → Nat) (L : Nat → Int32) (a : Nat) (x : Int32) : Md E mX10_keep ad [.ref (ad 0), .int x] (mkC E ad r i (rwF S P L a) K kb) (some (.int (if rgB x (nI 0) (nI 2) then nI (psS S) else -2))) (mkC E ad r i (rwF S P L a) (if rgB x (nI 0) (nI 2) then ksF (rwF S P L a) K (nN x) 57 else K) (if rgB x (nI 0) (nI 2) then upB kb (nN x) true else kb)) := by
  by_cases hc : rgB x (nI 0) (nI 2) = true
  · rw [if_pos hc, if_pos hc, if_pos hc]
    obtain ⟨s, -, hs, rfl⟩ := rgB_n (by decide) (by decide) hc
    rw [nN_n (by omega)]
    refine Md.of 1 (by decide) rfl rfl ?_
    refine Tr.iload_n (i := 1) dX10_keep_0 rfl rfl (Eq.refl 1) ?_
    refine Tr.callSr (L := []) (m_isSlot E _ (nI s)) dX10_keep_1 (kX10_396 (Nat.le_of_ble_eq_true rfl)) sX10_isSlot rfl rfl rfl rfl rfl rfl rfl (Eq.refl 4) ?_
    refine Tr.if_neB (tgt := 10) dX10_keep_4 (by decide) (Eq.refl 7) (fun h4 => ?_) (fun h4 => ?_)
    · refine Tr.iconst (v := nI 0) dX10_keep_10 (icN 0) (Eq.refl 11) ?_
      refine Tr.istore_n (i := 2) dX10_keep_11 rfl rfl rfl (Eq.refl 12) ?_
      skip
      refine Tr.mask [true, true, true] (lv' := [some (.ref (ad 0)), some (.int (nI s)), some (.int (nI 0))]) rfl ?_
      refine Tr.pic (w' := (mkC E ad r i (rwF S P L a) (ksF (rwF S P L a) K s 0) kb)) rfl ?_
      refine loopD (P := fun j => Tr _ 0 0 12 [some (.ref (ad 0)), some (.int (nI s)), some (.int (nI j))] [] (mkC E ad r i (rwF S P L a) (ksF (rwF S P L a) K s j) kb)) 57 ?_ (fun j hj ih => ?_)
      · refine Tr.iload_n (i := 2) dX10_keep_12 rfl rfl (Eq.refl 13) ?_
        refine Tr.bipush (v := nI 57) dX10_keep_13 (by decide +kernel) (Eq.refl 15) ?_
        refine Tr.icmp_geN (tgt := 41) dX10_keep_15 (by decide) (Eq.refl 18) (by omega) (by omega) (fun h15 => ?_) (fun h15 => ?_)
        · refine Tr.aload_n (i := 0) dX10_keep_41 rfl rfl (Eq.refl 42) ?_
          refine Tr.getf dX10_keep_42 fX10_246 rfl rfl (Eq.refl 45) ?_
          refine Tr.iload_n (i := 1) dX10_keep_45 rfl rfl (Eq.refl 46) ?_
          refine Tr.iconst (v := nI 1) dX10_keep_46 (icN 1) (Eq.refl 47) ?_
          refine Tr.zastN dX10_keep_47 rfl (by omega) (by decide) (Eq.refl 48) ?_
          refine Tr.pic (w' := (mkC E ad r i (rwF S P L a) (ksF (rwF S P L a) K s 57) (upB kb s true))) (by unfold mkC; rw [bI_upB]; rfl) ?_
          refine Tr.aload_n (i := 0) dX10_keep_48 rfl rfl (Eq.refl 49) ?_
          refine Tr.getf dX10_keep_49 fX10_219 rfl rfl (Eq.refl 52) ?_
          refine Tr.bipush (v := nI 55) dX10_keep_52 (by decide +kernel) (Eq.refl 54) ?_
          refine Tr.ialdN dX10_keep_54 rfl (by omega) (by decide) (Eq.refl 55) ?_
          refine Tr.top (rd_ps) ?_
          refine Tr.iret dX10_keep_55 rfl (by first | rfl | exact bI_nar _) ?_ ?_
          · rfl
          · rfl
        · exact absurd h15 (by omega)
      · refine Tr.iload_n (i := 2) dX10_keep_12 rfl rfl (Eq.refl 13) ?_
        refine Tr.bipush (v := nI 57) dX10_keep_13 (by decide +kernel) (Eq.refl 15) ?_
        refine Tr.icmp_geN (tgt := 41) dX10_keep_15 (by decide) (Eq.refl 18) (by omega) (by omega) (fun h15 => ?_) (fun h15 => ?_)
        · exact absurd h15 (by omega)
        · refine Tr.aload_n (i := 0) dX10_keep_18 rfl rfl (Eq.refl 19) ?_
          refine Tr.getf dX10_keep_19 fX10_243 rfl rfl (Eq.refl 22) ?_
          refine Tr.bipush (v := nI 57) dX10_keep_22 (by decide +kernel) (Eq.refl 24) ?_
          refine Tr.iload_n (i := 1) dX10_keep_24 rfl rfl (Eq.refl 25) ?_
          refine Tr.imulN dX10_keep_25 (Eq.refl 26) ?_
          refine Tr.iload_n (i := 2) dX10_keep_26 rfl rfl (Eq.refl 27) ?_
          refine Tr.iaddN dX10_keep_27 (Eq.refl 28) ?_
          refine Tr.aload_n (i := 0) dX10_keep_28 rfl rfl (Eq.refl 29) ?_
          refine Tr.getf dX10_keep_29 fX10_219 rfl rfl (Eq.refl 32) ?_
          refine Tr.iload_n (i := 2) dX10_keep_32 rfl rfl (Eq.refl 33) ?_
          refine Tr.ialdN dX10_keep_33 rfl (by omega) (by decide) (Eq.refl 34) ?_
          refine Tr.iastN dX10_keep_34 rfl (by omega) (by decide) (Eq.refl 35) ?_
          refine Tr.iincN dX10_keep_35 rfl rfl rfl (Eq.refl 38) ?_
          refine Tr.goto (pc' := 12) dX10_keep_38 (by decide) ?_
          exact Tr.eqs rfl rfl rfl ih
    · exact absurd (hc.symm.trans h4) (by decide)
  · rw [if_neg hc, if_neg hc, if_neg hc]
    refine Md.of 1 (by decide) rfl rfl ?_
    refine Tr.iload_n (i := 1) dX10_keep_0 rfl rfl (Eq.refl 1) ?_
    refine Tr.callSr (L := []) (m_isSlot E _ x) dX10_keep_1 (kX10_396 (Nat.le_of_ble_eq_true rfl)) sX10_isSlot rfl rfl rfl rfl rfl rfl rfl (Eq.refl 4) ?_
    refine Tr.if_neB (tgt := 10) dX10_keep_4 (by decide) (Eq.refl 7) (fun h4 => ?_) (fun h4 => ?_)
    · exact absurd h4 hc
    · refine Tr.bipush (v := (-2)) dX10_keep_7 (by decide +kernel) (Eq.refl 9) ?_
      refine Tr.iret dX10_keep_9 rfl (by first | rfl | exact bI_nar _) ?_ ?_
      · rfl
      · rfl
set_option maxHeartbeats 4000000 in
set_option maxRecDepth 100000 in
theorem m_take (E : EnvT) (ad r : Nat → Nat) (i : Nat → Int32) (g K : Nat → Int32) (kb : Nat → Bool) (x : Int32) : Md E mX10_take ad [.ref (ad 0), .int x] (mkC E ad r i g K kb) (some (.int (if rgB x (nI 0) (nI 2) then (if kb (nN x) then K (57 * (nN x) + 55) else -4) else -2))) (mkC E ad r i (if rgB x (nI 0) (nI 2) then (if kb (nN x) then (fun j => K (57 * (nN x) + j)) else g) else g) K kb) := by
  by_cases hc : rgB x (nI 0) (nI 2) = true
  · rw [if_pos hc, if_pos hc]
    obtain ⟨s, -, hs, rfl⟩ := rgB_n (by decide) (by decide) hc
    rw [nN_n (by omega)]
    by_cases hk : kb s = true
    · rw [if_pos hk, if_pos hk]
      refine Md.of 1 (by decide) rfl rfl ?_
      refine Tr.iload_n (i := 1) dX10_take_0 rfl rfl (Eq.refl 1) ?_
      refine Tr.callSr (L := []) (m_isSlot E _ (nI s)) dX10_take_1 (kX10_396 (Nat.le_of_ble_eq_true rfl)) sX10_isSlot rfl rfl rfl rfl rfl rfl rfl (Eq.refl 4) ?_
      refine Tr.if_neB (tgt := 10) dX10_take_4 (by decide) (Eq.refl 7) (fun h4 => ?_) (fun h4 => ?_)
      · refine Tr.aload_n (i := 0) dX10_take_10 rfl rfl (Eq.refl 11) ?_
        refine Tr.getf dX10_take_11 fX10_246 rfl rfl (Eq.refl 14) ?_
        refine Tr.iload_n (i := 1) dX10_take_14 rfl rfl (Eq.refl 15) ?_
        refine Tr.zaldN dX10_take_15 rfl (by omega) (by decide) (Eq.refl 16) ?_
        refine Tr.if_neB (tgt := 22) dX10_take_16 (by decide) (Eq.refl 19) (fun h16 => ?_) (fun h16 => ?_)
        · refine Tr.iconst (v := nI 0) dX10_take_22 (icN 0) (Eq.refl 23) ?_
          refine Tr.istore_n (i := 2) dX10_take_23 rfl rfl rfl (Eq.refl 24) ?_
          skip
          refine Tr.mask [true, true, true] (lv' := [some (.ref (ad 0)), some (.int (nI s)), some (.int (nI 0))]) rfl ?_
          refine Tr.pic (w' := (mkC E ad r i (pre (fun j => K (57 * s + j)) g 0) K kb)) (by exact congrArg (fun x => (mkC E ad r i x K kb)) (show g = pre (fun j => K (57 * s + j)) g 0 from funext fun k => (if_neg (Nat.not_lt_zero k)).symm)) ?_
          refine loopD (P := fun j => Tr _ 0 0 24 [some (.ref (ad 0)), some (.int (nI s)), some (.int (nI j))] [] (mkC E ad r i (pre (fun j => K (57 * s + j)) g j) K kb)) 57 ?_ (fun j hj ih => ?_)
          · refine Tr.fn (q := 1) (fun j => K (57 * s + j)) rfl (fun k hk => pre_n hk) ?_
            refine Tr.iload_n (i := 2) dX10_take_24 rfl rfl (Eq.refl 25) ?_
            refine Tr.bipush (v := nI 57) dX10_take_25 (by decide +kernel) (Eq.refl 27) ?_
            refine Tr.icmp_geN (tgt := 53) dX10_take_27 (by decide) (Eq.refl 30) (by omega) (by omega) (fun h27 => ?_) (fun h27 => ?_)
            · refine Tr.aload_n (i := 0) dX10_take_53 rfl rfl (Eq.refl 54) ?_
              refine Tr.getf dX10_take_54 fX10_219 rfl rfl (Eq.refl 57) ?_
              refine Tr.bipush (v := nI 55) dX10_take_57 (by decide +kernel) (Eq.refl 59) ?_
              refine Tr.ialdN dX10_take_59 rfl (by omega) (by decide) (Eq.refl 60) ?_
              refine Tr.iret dX10_take_60 rfl (by first | rfl | exact bI_nar _) ?_ ?_
              · rfl
              · rfl
            · exact absurd h27 (by omega)
          · refine Tr.iload_n (i := 2) dX10_take_24 rfl rfl (Eq.refl 25) ?_
            refine Tr.bipush (v := nI 57) dX10_take_25 (by decide +kernel) (Eq.refl 27) ?_
            refine Tr.icmp_geN (tgt := 53) dX10_take_27 (by decide) (Eq.refl 30) (by omega) (by omega) (fun h27 => ?_) (fun h27 => ?_)
            · exact absurd h27 (by omega)
            · refine Tr.aload_n (i := 0) dX10_take_30 rfl rfl (Eq.refl 31) ?_
              refine Tr.getf dX10_take_31 fX10_219 rfl rfl (Eq.refl 34) ?_
              refine Tr.iload_n (i := 2) dX10_take_34 rfl rfl (Eq.refl 35) ?_
              refine Tr.aload_n (i := 0) dX10_take_35 rfl rfl (Eq.refl 36) ?_
              refine Tr.getf dX10_take_36 fX10_243 rfl rfl (Eq.refl 39) ?_
              refine Tr.bipush (v := nI 57) dX10_take_39 (by decide +kernel) (Eq.refl 41) ?_
              refine Tr.iload_n (i := 1) dX10_take_41 rfl rfl (Eq.refl 42) ?_
              refine Tr.imulN dX10_take_42 (Eq.refl 43) ?_
              refine Tr.iload_n (i := 2) dX10_take_43 rfl rfl (Eq.refl 44) ?_
              refine Tr.iaddN dX10_take_44 (Eq.refl 45) ?_
              refine Tr.ialdN dX10_take_45 rfl (by omega) (by decide) (Eq.refl 46) ?_
              refine Tr.iastN dX10_take_46 rfl (by omega) (by decide) (Eq.refl 47) ?_
              refine Tr.iincN dX10_take_47 rfl rfl rfl (Eq.refl 50) ?_
              refine Tr.goto (pc' := 24) dX10_take_50 (by decide) ?_
              exact Tr.eqs rfl rfl (by exact congrArg (fun x => (mkC E ad r i x K kb)) (pre_s (fun j => K (57 * s + j)) g j)) ih
        · exact absurd (hk.symm.trans h16) (by decide)
      · exact absurd (hc.symm.trans h4) (by decide)
    · rw [if_neg hk, if_neg hk]
      refine Md.of 1 (by decide) rfl rfl ?_
      refine Tr.iload_n (i := 1) dX10_take_0 rfl rfl (Eq.refl 1) ?_
      refine Tr.callSr (L := []) (m_isSlot E _ (nI s)) dX10_take_1 (kX10_396 (Nat.le_of_ble_eq_true rfl)) sX10_isSlot rfl rfl rfl rfl rfl rfl rfl (Eq.refl 4) ?_
      refine Tr.if_neB (tgt := 10) dX10_take_4 (by decide) (Eq.refl 7) (fun h4 => ?_) (fun h4 => ?_)
      · refine Tr.aload_n (i := 0) dX10_take_10 rfl rfl (Eq.refl 11) ?_
        refine Tr.getf dX10_take_11 fX10_246 rfl rfl (Eq.refl 14) ?_
        refine Tr.iload_n (i := 1) dX10_take_14 rfl rfl (Eq.refl 15) ?_
        refine Tr.zaldN dX10_take_15 rfl (by omega) (by decide) (Eq.refl 16) ?_
        refine Tr.if_neB (tgt := 22) dX10_take_16 (by decide) (Eq.refl 19) (fun h16 => ?_) (fun h16 => ?_)
        · exact absurd h16 hk
        · refine Tr.bipush (v := (-4)) dX10_take_19 (by decide +kernel) (Eq.refl 21) ?_
          refine Tr.iret dX10_take_21 rfl (by first | rfl | exact bI_nar _) ?_ ?_
          · rfl
          · rfl
      · exact absurd (hc.symm.trans h4) (by decide)
  · rw [if_neg hc, if_neg hc]
    refine Md.of 1 (by decide) rfl rfl ?_
    refine Tr.iload_n (i := 1) dX10_take_0 rfl rfl (Eq.refl 1) ?_
    refine Tr.callSr (L := []) (m_isSlot E _ x) dX10_take_1 (kX10_396 (Nat.le_of_ble_eq_true rfl)) sX10_isSlot rfl rfl rfl rfl rfl rfl rfl (Eq.refl 4) ?_
    refine Tr.if_neB (tgt := 10) dX10_take_4 (by decide) (Eq.refl 7) (fun h4 => ?_) (fun h4 => ?_)
    · exact absurd h4 hc
    · refine Tr.bipush (v := (-2)) dX10_take_7 (by decide +kernel) (Eq.refl 9) ?_
      refine Tr.iret dX10_take_9 rfl (by first | rfl | exact bI_nar _) ?_ ?_
      · rfl
      · rfl
def mdO (ad r : Nat → Nat) (i : Nat → Int32) (V : Vil) : va_E := .inr (10, [.ref (r 0), .int (i 1), .int (i 2), .int (i 3), .int (i 4), .int (i 5), .int (i 6), .int (i 7), .int (i 8), .int (i 9), .int (nI (nhV V)), .int (nI (npV V)), .int (i 12), .int (i 13), .int (i 14), .int (i 15), .int (i 16), .int (bI (laV V)), .int (i 18), .ref (ad 1), .ref (r 20), .ref (ad 2), .ref (ad 3), .ref (ad 4), .ref (ad 5), .ref (ad 6), .ref (ad 7), .ref (r 27), .ref (r 28), .ref (r 29), .ref (r 30), .ref (r 31), .ref (r 32), .ref (r 33), .ref (r 34), .ref (r 35), .ref (r 36), .int (i 37), .ref (r 38), .ref (r 39), .int (i 40), .int (i 41), .int (i 42), .int (i 43), .int (i 44), .int (i 45), .ref (r 46), .ref (r 47), .ref (r 48), .ref (r 49), .ref (r 50), .ref (r 51), .int (i 52), .int (i 53), .ref (r 54), .int (i 55), .int (i 56), .ref (r 57), .ref (r 58), .ref (r 59), .int (i 60)])
def mdC (E : EnvT) (ad r : Nat → Nat) (i : Nat → Int32) (V : Vil) (so st : Nat → Int32) : List va_E := [mdO ad r i V, aI E 6 (ruV V), aI E 5 so, aI E 5 (woV V), aI E 5 st, aI E 5 (fun k => cl (owV V k)), aI E 5 (fun k => cl (hoV V k)), aI E 5 (wkV V)]
/-- what was told, by its number -/
def toA (V : Vil) (so st : Nat → Int32) (x : Int32) : Int32 :=
  if rgB x (nI 2) (nI 7) then ruV V (nN x - 2)
  else if rgB x (nI 10) (nI 49) then (if nN x % 10 < nhV V then (if nN x < 20 then so (nN x % 10) else if nN x < 30 then woV V (nN x % 10) else if nN x < 40 then st (nN x % 10) else cl (owV V (nN x % 10))) else -1)
  else if rgB x (nI 50) (nI 69) then (if nN x % 10 < npV V then (if nN x < 60 then cl (hoV V (nN x % 10)) else wkV V (nN x % 10)) else -1)
  else if x = nI 0 then nI (nhV V) else if x = nI 1 then nI (npV V) else if x = nI 8 then bI (laV V) else -1
set_option maxHeartbeats 4000000 in
set_option maxRecDepth 100000 in
theorem m_told (E : EnvT) (ad r : Nat → Nat) (i : Nat → Int32) (V : Vil) (so st : Nat → Int32) (x : Int32) (hV : Vok V) : Md E mX10_told ad [.ref (ad 0), .int x] (mdC E ad r i V so st) (some (.int (toA V so st x))) (mdC E ad r i V so st) := by
  have v1 := hV.1
  have v2 := hV.2.1
  unfold toA
  by_cases hc1 : rgB x (nI 2) (nI 7) = true
  · rw [if_pos hc1]
    obtain ⟨n, hn1, hn, rfl⟩ := rgB_n (by decide) (by decide) hc1
    rw [nN_n (by omega)]
    refine Md.of 1 (by decide) rfl rfl ?_
    refine Tr.iload_n (i := 1) dX10_told_0 rfl rfl (Eq.refl 1) ?_
    refine Tr.bipush (v := nI 10) dX10_told_1 (by decide +kernel) (Eq.refl 3) ?_
    refine Tr.irem dX10_told_3 (by decide +kernel) (Eq.refl 4) ?_
    refine Tr.istore_n (i := 2) dX10_told_4 rfl rfl rfl (Eq.refl 5) ?_
    refine Tr.iload_n (i := 1) dX10_told_5 rfl rfl (Eq.refl 6) ?_
    refine Tr.i2l dX10_told_6 rfl (Eq.refl 7) ?_
    refine Tr.ldc2 dX10_told_7 qX10_297 (Eq.refl 10) ?_
    refine Tr.ldc2 dX10_told_10 qX10_299 (Eq.refl 13) ?_
    refine Tr.callSr (L := []) (m_in E _ (nI n).toInt64 2 7) dX10_told_13 (kX10_52 (Nat.le_of_ble_eq_true rfl)) sX10_in rfl rfl rfl rfl rfl rfl rfl (Eq.refl 16) ?_
    rw [in32' (nI n) (a := nI 2) (b := nI 7) (by decide) (by decide)]
    refine Tr.if_eqB (tgt := 28) dX10_told_16 (by decide) (Eq.refl 19) (fun h16 => ?_) (fun h16 => ?_)
    · exact absurd (hc1.symm.trans h16) (by decide)
    · refine Tr.aload_n (i := 0) dX10_told_19 rfl rfl (Eq.refl 20) ?_
      refine Tr.getf dX10_told_20 fX10_197 rfl rfl (Eq.refl 23) ?_
      refine Tr.iload_n (i := 1) dX10_told_23 rfl rfl (Eq.refl 24) ?_
      refine Tr.iconst (v := nI 2) dX10_told_24 (icN 2) (Eq.refl 25) ?_
      refine Tr.isub dX10_told_25 (Eq.refl 26) ?_
      rw [pk_sub hn1]
      refine Tr.ialdN dX10_told_26 rfl (by omega) (by decide) (Eq.refl 27) ?_
      refine Tr.iret dX10_told_27 rfl (by first | rfl | exact bI_nar _) ?_ ?_
      · rfl
      · rfl
  · rw [if_neg hc1]
    by_cases hc2 : rgB x (nI 10) (nI 49) = true
    · rw [if_pos hc2]
      obtain ⟨n, hn1, hn, rfl⟩ := rgB_n (by decide) (by decide) hc2
      rw [nN_n (by omega)]
      refine Md.of 1 (by decide) rfl rfl ?_
      refine Tr.iload_n (i := 1) dX10_told_0 rfl rfl (Eq.refl 1) ?_
      refine Tr.bipush (v := nI 10) dX10_told_1 (by decide +kernel) (Eq.refl 3) ?_
      refine Tr.irem dX10_told_3 (by decide +kernel) (Eq.refl 4) ?_
      rw [pk_rem (by omega) (by decide) (by decide)]
      refine Tr.istore_n (i := 2) dX10_told_4 rfl rfl rfl (Eq.refl 5) ?_
      refine Tr.iload_n (i := 1) dX10_told_5 rfl rfl (Eq.refl 6) ?_
      refine Tr.i2l dX10_told_6 rfl (Eq.refl 7) ?_
      refine Tr.ldc2 dX10_told_7 qX10_297 (Eq.refl 10) ?_
      refine Tr.ldc2 dX10_told_10 qX10_299 (Eq.refl 13) ?_
      refine Tr.callSr (L := []) (m_in E _ (nI n).toInt64 2 7) dX10_told_13 (kX10_52 (Nat.le_of_ble_eq_true rfl)) sX10_in rfl rfl rfl rfl rfl rfl rfl (Eq.refl 16) ?_
      rw [in32' (nI n) (a := nI 2) (b := nI 7) (by decide) (by decide)]
      refine Tr.if_eqB (tgt := 28) dX10_told_16 (by decide) (Eq.refl 19) (fun h16 => ?_) (fun h16 => ?_)
      · refine Tr.iload_n (i := 1) dX10_told_28 rfl rfl (Eq.refl 29) ?_
        refine Tr.i2l dX10_told_29 rfl (Eq.refl 30) ?_
        refine Tr.ldc2 dX10_told_30 qX10_301 (Eq.refl 33) ?_
        refine Tr.ldc2 dX10_told_33 qX10_303 (Eq.refl 36) ?_
        refine Tr.callSr (L := []) (m_in E _ (nI n).toInt64 10 49) dX10_told_36 (kX10_52 (Nat.le_of_ble_eq_true rfl)) sX10_in rfl rfl rfl rfl rfl rfl rfl (Eq.refl 39) ?_
        rw [in32' (nI n) (a := nI 10) (b := nI 49) (by decide) (by decide)]
        refine Tr.if_eqB (tgt := 106) dX10_told_39 (by decide) (Eq.refl 42) (fun h39 => ?_) (fun h39 => ?_)
        · exact absurd (hc2.symm.trans h39) (by decide)
        · refine Tr.iload_n (i := 2) dX10_told_42 rfl rfl (Eq.refl 43) ?_
          refine Tr.aload_n (i := 0) dX10_told_43 rfl rfl (Eq.refl 44) ?_
          refine Tr.getf dX10_told_44 fX10_282 rfl rfl (Eq.refl 47) ?_
          refine Tr.icmp_ltN (tgt := 54) dX10_told_47 (by decide) (Eq.refl 50) (by omega) (by omega) (fun h47 => ?_) (fun h47 => ?_)
          · rw [if_pos h47]
            refine Tr.iload_n (i := 1) dX10_told_54 rfl rfl (Eq.refl 55) ?_
            refine Tr.bipush (v := nI 20) dX10_told_55 (by decide +kernel) (Eq.refl 57) ?_
            refine Tr.icmp_geN (tgt := 69) dX10_told_57 (by decide) (Eq.refl 60) (by omega) (by omega) (fun h57 => ?_) (fun h57 => ?_)
            · rw [if_neg (by omega)]
              refine Tr.iload_n (i := 1) dX10_told_69 rfl rfl (Eq.refl 70) ?_
              refine Tr.bipush (v := nI 30) dX10_told_70 (by decide +kernel) (Eq.refl 72) ?_
              refine Tr.icmp_geN (tgt := 84) dX10_told_72 (by decide) (Eq.refl 75) (by omega) (by omega) (fun h72 => ?_) (fun h72 => ?_)
              · rw [if_neg (by omega)]
                refine Tr.iload_n (i := 1) dX10_told_84 rfl rfl (Eq.refl 85) ?_
                refine Tr.bipush (v := nI 40) dX10_told_85 (by decide +kernel) (Eq.refl 87) ?_
                refine Tr.icmp_geN (tgt := 99) dX10_told_87 (by decide) (Eq.refl 90) (by omega) (by omega) (fun h87 => ?_) (fun h87 => ?_)
                · rw [if_neg (by omega)]
                  refine Tr.aload_n (i := 0) dX10_told_99 rfl rfl (Eq.refl 100) ?_
                  refine Tr.getf dX10_told_100 fX10_209 rfl rfl (Eq.refl 103) ?_
                  refine Tr.iload_n (i := 2) dX10_told_103 rfl rfl (Eq.refl 104) ?_
                  refine Tr.ialdN dX10_told_104 rfl (by omega) (by decide) (Eq.refl 105) ?_
                  refine Tr.iret dX10_told_105 rfl (by first | rfl | exact bI_nar _) ?_ ?_
                  · rfl
                  · rfl
                · rw [if_pos (by omega)]
                  refine Tr.aload_n (i := 0) dX10_told_90 rfl rfl (Eq.refl 91) ?_
                  refine Tr.getf dX10_told_91 fX10_206 rfl rfl (Eq.refl 94) ?_
                  refine Tr.iload_n (i := 2) dX10_told_94 rfl rfl (Eq.refl 95) ?_
                  refine Tr.ialdN dX10_told_95 rfl (by omega) (by decide) (Eq.refl 96) ?_
                  refine Tr.goto (pc' := 105) dX10_told_96 (by decide) ?_
                  refine Tr.iret dX10_told_105 rfl (by first | rfl | exact bI_nar _) ?_ ?_
                  · rfl
                  · rfl
              · rw [if_pos (by omega)]
                refine Tr.aload_n (i := 0) dX10_told_75 rfl rfl (Eq.refl 76) ?_
                refine Tr.getf dX10_told_76 fX10_203 rfl rfl (Eq.refl 79) ?_
                refine Tr.iload_n (i := 2) dX10_told_79 rfl rfl (Eq.refl 80) ?_
                refine Tr.ialdN dX10_told_80 rfl (by omega) (by decide) (Eq.refl 81) ?_
                refine Tr.goto (pc' := 105) dX10_told_81 (by decide) ?_
                refine Tr.iret dX10_told_105 rfl (by first | rfl | exact bI_nar _) ?_ ?_
                · rfl
                · rfl
            · rw [if_pos (by omega)]
              refine Tr.aload_n (i := 0) dX10_told_60 rfl rfl (Eq.refl 61) ?_
              refine Tr.getf dX10_told_61 fX10_200 rfl rfl (Eq.refl 64) ?_
              refine Tr.iload_n (i := 2) dX10_told_64 rfl rfl (Eq.refl 65) ?_
              refine Tr.ialdN dX10_told_65 rfl (by omega) (by decide) (Eq.refl 66) ?_
              refine Tr.goto (pc' := 105) dX10_told_66 (by decide) ?_
              refine Tr.iret dX10_told_105 rfl (by first | rfl | exact bI_nar _) ?_ ?_
              · rfl
              · rfl
          · rw [if_neg (by omega)]
            refine Tr.iconst (v := (-1)) dX10_told_50 (by decide +kernel) (Eq.refl 51) ?_
            refine Tr.goto (pc' := 105) dX10_told_51 (by decide) ?_
            refine Tr.iret dX10_told_105 rfl (by first | rfl | exact bI_nar _) ?_ ?_
            · rfl
            · rfl
      · exact absurd h16 hc1
    · rw [if_neg hc2]
      by_cases hc3 : rgB x (nI 50) (nI 69) = true
      · rw [if_pos hc3]
        obtain ⟨n, hn1, hn, rfl⟩ := rgB_n (by decide) (by decide) hc3
        rw [nN_n (by omega)]
        refine Md.of 1 (by decide) rfl rfl ?_
        refine Tr.iload_n (i := 1) dX10_told_0 rfl rfl (Eq.refl 1) ?_
        refine Tr.bipush (v := nI 10) dX10_told_1 (by decide +kernel) (Eq.refl 3) ?_
        refine Tr.irem dX10_told_3 (by decide +kernel) (Eq.refl 4) ?_
        rw [pk_rem (by omega) (by decide) (by decide)]
        refine Tr.istore_n (i := 2) dX10_told_4 rfl rfl rfl (Eq.refl 5) ?_
        refine Tr.iload_n (i := 1) dX10_told_5 rfl rfl (Eq.refl 6) ?_
        refine Tr.i2l dX10_told_6 rfl (Eq.refl 7) ?_
        refine Tr.ldc2 dX10_told_7 qX10_297 (Eq.refl 10) ?_
        refine Tr.ldc2 dX10_told_10 qX10_299 (Eq.refl 13) ?_
        refine Tr.callSr (L := []) (m_in E _ (nI n).toInt64 2 7) dX10_told_13 (kX10_52 (Nat.le_of_ble_eq_true rfl)) sX10_in rfl rfl rfl rfl rfl rfl rfl (Eq.refl 16) ?_
        rw [in32' (nI n) (a := nI 2) (b := nI 7) (by decide) (by decide)]
        refine Tr.if_eqB (tgt := 28) dX10_told_16 (by decide) (Eq.refl 19) (fun h16 => ?_) (fun h16 => ?_)
        · refine Tr.iload_n (i := 1) dX10_told_28 rfl rfl (Eq.refl 29) ?_
          refine Tr.i2l dX10_told_29 rfl (Eq.refl 30) ?_
          refine Tr.ldc2 dX10_told_30 qX10_301 (Eq.refl 33) ?_
          refine Tr.ldc2 dX10_told_33 qX10_303 (Eq.refl 36) ?_
          refine Tr.callSr (L := []) (m_in E _ (nI n).toInt64 10 49) dX10_told_36 (kX10_52 (Nat.le_of_ble_eq_true rfl)) sX10_in rfl rfl rfl rfl rfl rfl rfl (Eq.refl 39) ?_
          rw [in32' (nI n) (a := nI 10) (b := nI 49) (by decide) (by decide)]
          refine Tr.if_eqB (tgt := 106) dX10_told_39 (by decide) (Eq.refl 42) (fun h39 => ?_) (fun h39 => ?_)
          · refine Tr.iload_n (i := 1) dX10_told_106 rfl rfl (Eq.refl 107) ?_
            refine Tr.i2l dX10_told_107 rfl (Eq.refl 108) ?_
            refine Tr.ldc2 dX10_told_108 qX10_305 (Eq.refl 111) ?_
            refine Tr.ldc2 dX10_told_111 qX10_307 (Eq.refl 114) ?_
            refine Tr.callSr (L := []) (m_in E _ (nI n).toInt64 50 69) dX10_told_114 (kX10_52 (Nat.le_of_ble_eq_true rfl)) sX10_in rfl rfl rfl rfl rfl rfl rfl (Eq.refl 117) ?_
            rw [in32' (nI n) (a := nI 50) (b := nI 69) (by decide) (by decide)]
            refine Tr.if_eqB (tgt := 154) dX10_told_117 (by decide) (Eq.refl 120) (fun h117 => ?_) (fun h117 => ?_)
            · exact absurd (hc3.symm.trans h117) (by decide)
            · refine Tr.iload_n (i := 2) dX10_told_120 rfl rfl (Eq.refl 121) ?_
              refine Tr.aload_n (i := 0) dX10_told_121 rfl rfl (Eq.refl 122) ?_
              refine Tr.getf dX10_told_122 fX10_285 rfl rfl (Eq.refl 125) ?_
              refine Tr.icmp_ltN (tgt := 132) dX10_told_125 (by decide) (Eq.refl 128) (by omega) (by omega) (fun h125 => ?_) (fun h125 => ?_)
              · rw [if_pos h125]
                refine Tr.iload_n (i := 1) dX10_told_132 rfl rfl (Eq.refl 133) ?_
                refine Tr.bipush (v := nI 60) dX10_told_133 (by decide +kernel) (Eq.refl 135) ?_
                refine Tr.icmp_geN (tgt := 147) dX10_told_135 (by decide) (Eq.refl 138) (by omega) (by omega) (fun h135 => ?_) (fun h135 => ?_)
                · rw [if_neg (by omega)]
                  refine Tr.aload_n (i := 0) dX10_told_147 rfl rfl (Eq.refl 148) ?_
                  refine Tr.getf dX10_told_148 fX10_215 rfl rfl (Eq.refl 151) ?_
                  refine Tr.iload_n (i := 2) dX10_told_151 rfl rfl (Eq.refl 152) ?_
                  refine Tr.ialdN dX10_told_152 rfl (by omega) (by decide) (Eq.refl 153) ?_
                  refine Tr.iret dX10_told_153 rfl (by first | rfl | exact bI_nar _) ?_ ?_
                  · rfl
                  · rfl
                · rw [if_pos (by omega)]
                  refine Tr.aload_n (i := 0) dX10_told_138 rfl rfl (Eq.refl 139) ?_
                  refine Tr.getf dX10_told_139 fX10_212 rfl rfl (Eq.refl 142) ?_
                  refine Tr.iload_n (i := 2) dX10_told_142 rfl rfl (Eq.refl 143) ?_
                  refine Tr.ialdN dX10_told_143 rfl (by omega) (by decide) (Eq.refl 144) ?_
                  refine Tr.goto (pc' := 153) dX10_told_144 (by decide) ?_
                  refine Tr.iret dX10_told_153 rfl (by first | rfl | exact bI_nar _) ?_ ?_
                  · rfl
                  · rfl
              · rw [if_neg (by omega)]
                refine Tr.iconst (v := (-1)) dX10_told_128 (by decide +kernel) (Eq.refl 129) ?_
                refine Tr.goto (pc' := 153) dX10_told_129 (by decide) ?_
                refine Tr.iret dX10_told_153 rfl (by first | rfl | exact bI_nar _) ?_ ?_
                · rfl
                · rfl
          · exact absurd h39 hc2
        · exact absurd h16 hc1
      · rw [if_neg hc3]
        refine Md.of 1 (by decide) rfl rfl ?_
        refine Tr.iload_n (i := 1) dX10_told_0 rfl rfl (Eq.refl 1) ?_
        refine Tr.bipush (v := nI 10) dX10_told_1 (by decide +kernel) (Eq.refl 3) ?_
        refine Tr.irem dX10_told_3 (by decide +kernel) (Eq.refl 4) ?_
        refine Tr.istore_n (i := 2) dX10_told_4 rfl rfl rfl (Eq.refl 5) ?_
        refine Tr.iload_n (i := 1) dX10_told_5 rfl rfl (Eq.refl 6) ?_
        refine Tr.i2l dX10_told_6 rfl (Eq.refl 7) ?_
        refine Tr.ldc2 dX10_told_7 qX10_297 (Eq.refl 10) ?_
        refine Tr.ldc2 dX10_told_10 qX10_299 (Eq.refl 13) ?_
        refine Tr.callSr (L := []) (m_in E _ x.toInt64 2 7) dX10_told_13 (kX10_52 (Nat.le_of_ble_eq_true rfl)) sX10_in rfl rfl rfl rfl rfl rfl rfl (Eq.refl 16) ?_
        rw [in32' x (a := nI 2) (b := nI 7) (by decide) (by decide)]
        refine Tr.if_eqB (tgt := 28) dX10_told_16 (by decide) (Eq.refl 19) (fun h16 => ?_) (fun h16 => ?_)
        · refine Tr.iload_n (i := 1) dX10_told_28 rfl rfl (Eq.refl 29) ?_
          refine Tr.i2l dX10_told_29 rfl (Eq.refl 30) ?_
          refine Tr.ldc2 dX10_told_30 qX10_301 (Eq.refl 33) ?_
          refine Tr.ldc2 dX10_told_33 qX10_303 (Eq.refl 36) ?_
          refine Tr.callSr (L := []) (m_in E _ x.toInt64 10 49) dX10_told_36 (kX10_52 (Nat.le_of_ble_eq_true rfl)) sX10_in rfl rfl rfl rfl rfl rfl rfl (Eq.refl 39) ?_
          rw [in32' x (a := nI 10) (b := nI 49) (by decide) (by decide)]
          refine Tr.if_eqB (tgt := 106) dX10_told_39 (by decide) (Eq.refl 42) (fun h39 => ?_) (fun h39 => ?_)
          · refine Tr.iload_n (i := 1) dX10_told_106 rfl rfl (Eq.refl 107) ?_
            refine Tr.i2l dX10_told_107 rfl (Eq.refl 108) ?_
            refine Tr.ldc2 dX10_told_108 qX10_305 (Eq.refl 111) ?_
            refine Tr.ldc2 dX10_told_111 qX10_307 (Eq.refl 114) ?_
            refine Tr.callSr (L := []) (m_in E _ x.toInt64 50 69) dX10_told_114 (kX10_52 (Nat.le_of_ble_eq_true rfl)) sX10_in rfl rfl rfl rfl rfl rfl rfl (Eq.refl 117) ?_
            rw [in32' x (a := nI 50) (b := nI 69) (by decide) (by decide)]
            refine Tr.if_eqB (tgt := 154) dX10_told_117 (by decide) (Eq.refl 120) (fun h117 => ?_) (fun h117 => ?_)
            · refine Tr.iload_n (i := 1) dX10_told_154 rfl rfl (Eq.refl 155) ?_
              by_cases h155_0 : x = nI 0
              · refine Tr.lsw (off := 33) (tgt := 188) dX10_told_155 (by decide) (by rw [h155_0]; rfl) (by decide) ?_
                rw [if_pos h155_0]
                refine Tr.aload_n (i := 0) dX10_told_188 rfl rfl (Eq.refl 189) ?_
                refine Tr.getf dX10_told_189 fX10_282 rfl rfl (Eq.refl 192) ?_
                refine Tr.iret dX10_told_192 rfl (by first | rfl | exact bI_nar _) ?_ ?_
                · rfl
                · rfl
              by_cases h155_1 : x = nI 1
              · refine Tr.lsw (off := 38) (tgt := 193) dX10_told_155 (by decide) (by rw [h155_1]; rfl) (by decide) ?_
                rw [if_neg h155_0, if_pos h155_1]
                refine Tr.aload_n (i := 0) dX10_told_193 rfl rfl (Eq.refl 194) ?_
                refine Tr.getf dX10_told_194 fX10_285 rfl rfl (Eq.refl 197) ?_
                refine Tr.iret dX10_told_197 rfl (by first | rfl | exact bI_nar _) ?_ ?_
                · rfl
                · rfl
              by_cases h155_8 : x = nI 8
              · refine Tr.lsw (off := 43) (tgt := 198) dX10_told_155 (by decide) (by rw [h155_8]; rfl) (by decide) ?_
                rw [if_neg h155_0, if_neg h155_1, if_pos h155_8]
                refine Tr.aload_n (i := 0) dX10_told_198 rfl rfl (Eq.refl 199) ?_
                refine Tr.getf dX10_told_199 fX10_288 rfl rfl (Eq.refl 202) ?_
                refine Tr.if_eqB (tgt := 209) dX10_told_202 (by decide) (Eq.refl 205) (fun h202 => ?_) (fun h202 => ?_)
                · rw [h202]
                  refine Tr.iconst (v := nI 0) dX10_told_209 (icN 0) (Eq.refl 210) ?_
                  refine Tr.iret dX10_told_210 rfl (by first | rfl | exact bI_nar _) ?_ ?_
                  · rfl
                  · rfl
                · rw [h202]
                  refine Tr.iconst (v := nI 1) dX10_told_205 (icN 1) (Eq.refl 206) ?_
                  refine Tr.goto (pc' := 210) dX10_told_206 (by decide) ?_
                  refine Tr.iret dX10_told_210 rfl (by first | rfl | exact bI_nar _) ?_ ?_
                  · rfl
                  · rfl
              refine Tr.lsw (off := 56) (tgt := 211) dX10_told_155 (by decide) (by show Op.lookupswitch.offset [(0, 33), (1, 38), (8, 43)] 56 _ = 56; rw [Op.lookupswitch.offset_cons, if_neg (show ¬ (0 : Int) = _ from sw_ne (k := 0) (by decide) h155_0), Op.lookupswitch.offset_cons, if_neg (show ¬ (1 : Int) = _ from sw_ne (k := 1) (by decide) h155_1), Op.lookupswitch.offset_cons, if_neg (show ¬ (8 : Int) = _ from sw_ne (k := 8) (by decide) h155_8)]; rfl) (by decide) ?_
              rw [if_neg h155_0, if_neg h155_1, if_neg h155_8]
              refine Tr.iconst (v := (-1)) dX10_told_211 (by decide +kernel) (Eq.refl 212) ?_
              refine Tr.iret dX10_told_212 rfl (by first | rfl | exact bI_nar _) ?_ ?_
              · rfl
              · rfl
            · exact absurd h117 hc3
          · exact absurd h39 hc2
        · exact absurd h16 hc1
def mfO (r : Nat → Nat) (i : Nat → Int32) (fk fa : Int32) : va_E := .inr (10, [.ref (r 0), .int (i 1), .int (i 2), .int (i 3), .int (i 4), .int (i 5), .int (i 6), .int (i 7), .int (fk), .int (fa), .int (i 10), .int (i 11), .int (i 12), .int (i 13), .int (i 14), .int (i 15), .int (i 16), .int (i 17), .int (i 18), .ref (r 19), .ref (r 20), .ref (r 21), .ref (r 22), .ref (r 23), .ref (r 24), .ref (r 25), .ref (r 26), .ref (r 27), .ref (r 28), .ref (r 29), .ref (r 30), .ref (r 31), .ref (r 32), .ref (r 33), .ref (r 34), .ref (r 35), .ref (r 36), .int (i 37), .ref (r 38), .ref (r 39), .int (i 40), .int (i 41), .int (i 42), .int (i 43), .int (i 44), .int (i 45), .ref (r 46), .ref (r 47), .ref (r 48), .ref (r 49), .ref (r 50), .ref (r 51), .int (i 52), .int (i 53), .ref (r 54), .int (i 55), .int (i 56), .ref (r 57), .ref (r 58), .ref (r 59), .int (i 60)])
set_option maxHeartbeats 4000000 in
set_option maxRecDepth 100000 in
theorem m_fault (E : EnvT) (ad r : Nat → Nat) (i : Nat → Int32) (fk fa x : Int32) : Md E mX10_fault ad [.ref (ad 0), .int x] [mfO r i fk fa] (some (.int (if x = nI 0 then fk else if x = nI 1 then fa else -1))) [mfO r i fk fa] := by
  refine Md.of 0 (by decide) rfl rfl ?_
  refine Tr.iload_n (i := 1) dX10_fault_0 rfl rfl (Eq.refl 1) ?_
  refine Tr.if_ne (tgt := 11) dX10_fault_1 (by decide) (Eq.refl 4) (fun h1 => ?_) (fun h1 => ?_)
  · rw [if_neg (show ¬ x = nI 0 from h1)]
    refine Tr.iload_n (i := 1) dX10_fault_11 rfl rfl (Eq.refl 12) ?_
    refine Tr.iconst (v := nI 1) dX10_fault_12 (icN 1) (Eq.refl 13) ?_
    refine Tr.icmp_ne (tgt := 23) dX10_fault_13 (by decide) (Eq.refl 16) (fun h13 => ?_) (fun h13 => ?_)
    · rw [if_neg h13]
      refine Tr.iconst (v := (-1)) dX10_fault_23 (by decide +kernel) (Eq.refl 24) ?_
      refine Tr.iret dX10_fault_24 rfl (by first | rfl | exact bI_nar _) ?_ ?_
      · rfl
      · rfl
    · rw [if_pos h13]
      refine Tr.aload_n (i := 0) dX10_fault_16 rfl rfl (Eq.refl 17) ?_
      refine Tr.getf dX10_fault_17 fX10_10 rfl rfl (Eq.refl 20) ?_
      refine Tr.goto (pc' := 24) dX10_fault_20 (by decide) ?_
      refine Tr.iret dX10_fault_24 rfl (by first | rfl | exact bI_nar _) ?_ ?_
      · rfl
      · rfl
  · rw [if_pos (show x = nI 0 from h1)]
    refine Tr.aload_n (i := 0) dX10_fault_4 rfl rfl (Eq.refl 5) ?_
    refine Tr.getf dX10_fault_5 fX10_3 rfl rfl (Eq.refl 8) ?_
    refine Tr.goto (pc' := 24) dX10_fault_8 (by decide) ?_
    refine Tr.iret dX10_fault_24 rfl (by first | rfl | exact bI_nar _) ?_ ?_
    · rfl
    · rfl
def mcO (ad r : Nat → Nat) (i : Nat → Int32) (tp : Nat) : va_E := .inr (10, [.ref (r 0), .int (nI tp), .int (i 2), .int (i 3), .int (i 4), .int (i 5), .int (i 6), .int (i 7), .int (i 8), .int (i 9), .int (i 10), .int (i 11), .int (i 12), .int (i 13), .int (i 14), .int (i 15), .int (i 16), .int (i 17), .int (i 18), .ref (r 19), .ref (r 20), .ref (r 21), .ref (r 22), .ref (r 23), .ref (r 24), .ref (r 25), .ref (r 26), .ref (r 27), .ref (r 28), .ref (r 29), .ref (r 30), .ref (r 31), .ref (r 32), .ref (r 33), .ref (r 34), .ref (r 35), .ref (r 36), .int (i 37), .ref (ad 1), .ref (r 39), .int (i 40), .int (i 41), .int (i 42), .int (i 43), .int (i 44), .int (i 45), .ref (r 46), .ref (r 47), .ref (r 48), .ref (r 49), .ref (r 50), .ref (r 51), .int (i 52), .int (i 53), .ref (r 54), .int (i 55), .int (i 56), .ref (r 57), .ref (r 58), .ref (r 59), .int (i 60)])
set_option maxHeartbeats 4000000 in
set_option maxRecDepth 100000 in
theorem m_count (E : EnvT) (ad r : Nat → Nat) (i : Nat → Int32) (tp : Nat) (S : Scn) (P : Nat → Nat) (L : Nat → Int32) (a : Nat) (x : Int32) : Md E mX10_count ad [.ref (ad 0), .int x] [mcO ad r i tp, aI E 57 (rwF S P L a)] (some (.int (if x = nI 0 then i 12 else if x = nI 1 then nI (psS S) else if x = nI 2 then nI tp else -1))) [mcO ad r i tp, aI E 57 (rwF S P L a)] := by
  refine Md.of 0 (by decide) rfl rfl ?_
  refine Tr.iload_n (i := 1) dX10_count_0 rfl rfl (Eq.refl 1) ?_
  by_cases h1_0 : x = nI 0
  · refine Tr.tsIn (off := 27) (tgt := 28) dX10_count_1 (by rw [h1_0]; decide) (by rw [h1_0]; decide) (by rw [h1_0]; rfl) (by decide) ?_
    rw [if_pos h1_0]
    refine Tr.aload_n (i := 0) dX10_count_28 rfl rfl (Eq.refl 29) ?_
    refine Tr.getf dX10_count_29 fX10_291 rfl rfl (Eq.refl 32) ?_
    refine Tr.iret dX10_count_32 rfl (by first | rfl | exact bI_nar _) ?_ ?_
    · rfl
    · rfl
  by_cases h1_1 : x = nI 1
  · refine Tr.tsIn (off := 32) (tgt := 33) dX10_count_1 (by rw [h1_1]; decide) (by rw [h1_1]; decide) (by rw [h1_1]; rfl) (by decide) ?_
    rw [if_neg h1_0, if_pos h1_1]
    refine Tr.aload_n (i := 0) dX10_count_33 rfl rfl (Eq.refl 34) ?_
    refine Tr.getf dX10_count_34 fX10_219 rfl rfl (Eq.refl 37) ?_
    refine Tr.bipush (v := nI 55) dX10_count_37 (by decide +kernel) (Eq.refl 39) ?_
    refine Tr.ialdN dX10_count_39 rfl (by omega) (by decide) (Eq.refl 40) ?_
    refine Tr.top (rd_ps) ?_
    refine Tr.iret dX10_count_40 rfl (by first | rfl | exact bI_nar _) ?_ ?_
    · rfl
    · rfl
  by_cases h1_2 : x = nI 2
  · refine Tr.tsIn (off := 40) (tgt := 41) dX10_count_1 (by rw [h1_2]; decide) (by rw [h1_2]; decide) (by rw [h1_2]; rfl) (by decide) ?_
    rw [if_neg h1_0, if_neg h1_1, if_pos h1_2]
    refine Tr.aload_n (i := 0) dX10_count_41 rfl rfl (Eq.refl 42) ?_
    refine Tr.getf dX10_count_42 fX10_71 rfl rfl (Eq.refl 45) ?_
    refine Tr.iret dX10_count_45 rfl (by first | rfl | exact bI_nar _) ?_ ?_
    · rfl
    · rfl
  refine Tr.tsOut (tgt := 46) dX10_count_1 (by by_cases hA : (x).toInt < 0 ∨ 2 < (x).toInt; exact hA; exfalso; rcases (show (x).toInt = 0 ∨ (x).toInt = 1 ∨ (x).toInt = 2 by omega) with hB | hB | hB; exact h1_0 (sw_e (k := 0) (by decide) hB); exact h1_1 (sw_e (k := 1) (by decide) hB); exact h1_2 (sw_e (k := 2) (by decide) hB)) (by decide) ?_
  rw [if_neg h1_0, if_neg h1_1, if_neg h1_2]
  refine Tr.iconst (v := (-1)) dX10_count_46 (by decide +kernel) (Eq.refl 47) ?_
  refine Tr.iret dX10_count_47 rfl (by first | rfl | exact bI_nar _) ?_ ?_
  · rfl
  · rfl
def mpO (ad r : Nat → Nat) (i : Nat → Int32) (tp : Nat) : va_E := .inr (10, [.ref (ad 1), .int (nI tp), .int (i 2), .int (i 3), .int (i 4), .int (i 5), .int (i 6), .int (i 7), .int (i 8), .int (i 9), .int (i 10), .int (i 11), .int (i 12), .int (i 13), .int (i 14), .int (i 15), .int (i 16), .int (i 17), .int (i 18), .ref (r 19), .ref (r 20), .ref (r 21), .ref (r 22), .ref (r 23), .ref (r 24), .ref (r 25), .ref (r 26), .ref (r 27), .ref (r 28), .ref (r 29), .ref (r 30), .ref (r 31), .ref (r 32), .ref (r 33), .ref (r 34), .ref (r 35), .ref (r 36), .int (i 37), .ref (r 38), .ref (r 39), .int (i 40), .int (i 41), .int (i 42), .int (i 43), .int (i 44), .int (i 45), .ref (r 46), .ref (r 47), .ref (r 48), .ref (r 49), .ref (r 50), .ref (r 51), .int (i 52), .int (i 53), .ref (r 54), .int (i 55), .int (i 56), .ref (r 57), .ref (r 58), .ref (r 59), .int (i 60)])
def mpC (E : EnvT) (ad r : Nat → Nat) (i : Nat → Int32) (tp : Nat) (b : Nat → Int32) : List va_E := [mpO ad r i tp, aB E 900 b]
/-- a byte of an int, as the reference keeps it -/
def by8 (v : Int32) (k : Nat) : Int32 := (v >>> (nI k &&& 31)).toInt8.toInt32
def p4F (b : Nat → Int32) (t : Nat) (v : Int32) : Nat → Int32 := upd (upd (upd (upd b t (by8 v 24)) (t + 1) (by8 v 16)) (t + 1 + 1) (by8 v 8)) (t + 1 + 1 + 1) (by8 v 0)
theorem mp_b {E : EnvT} {ad r : Nat → Nat} {i : Nat → Int32} {tp : Nat} {b : Nat → Int32} {t k : Nat} {v : Int32} : (mpC E ad r i tp b).set 1 (aB E 900 (upd b t (vp_nar .byte (v >>> (nI k &&& 31)).toInt8.toInt32))) = mpC E ad r i tp (upd b t (by8 v k)) := by
  rw [pk_vb]
  rfl
set_option maxHeartbeats 4000000 in
set_option maxRecDepth 100000 in
theorem m_putFour (E : EnvT) (ad r : Nat → Nat) (i : Nat → Int32) (tp : Nat) (b : Nat → Int32) (v : Int32) (h : tp + 4 ≤ 900) : Md E mX10_putFour ad [.ref (ad 0), .int v] (mpC E ad r i tp b) none (mpC E ad r i (tp + 4) (p4F b tp v)) := by
  refine Md.of 1 (by decide) rfl rfl ?_
  refine Tr.bipush (v := nI 24) dX10_putFour_0 (by decide +kernel) (Eq.refl 2) ?_
  refine Tr.istore_n (i := 2) dX10_putFour_2 rfl rfl rfl (Eq.refl 3) ?_
  refine Tr.iload_n (i := 2) dX10_putFour_3 rfl rfl (Eq.refl 4) ?_
  refine Tr.if_lt (tgt := 36) dX10_putFour_4 (by decide) (Eq.refl 7) (fun h => absurd h (by decide)) (fun _ => ?_)
  refine Tr.aload_n (i := 0) dX10_putFour_7 rfl rfl (Eq.refl 8) ?_
  refine Tr.getf dX10_putFour_8 fX10_16 rfl rfl (Eq.refl 11) ?_
  refine Tr.aload_n (i := 0) dX10_putFour_11 rfl rfl (Eq.refl 12) ?_
  refine Tr.getf dX10_putFour_12 fX10_71 rfl rfl (Eq.refl 15) ?_
  refine Tr.iload_n (i := 1) dX10_putFour_15 rfl rfl (Eq.refl 16) ?_
  refine Tr.iload_n (i := 2) dX10_putFour_16 rfl rfl (Eq.refl 17) ?_
  refine Tr.ishr dX10_putFour_17 (Eq.refl 18) ?_
  refine Tr.i2b dX10_putFour_18 rfl (Eq.refl 19) ?_
  refine Tr.bastN dX10_putFour_19 rfl (by omega) (by decide) (Eq.refl 20) ?_
  refine Tr.pic mp_b ?_
  refine Tr.aload_n (i := 0) dX10_putFour_20 rfl rfl (Eq.refl 21) ?_
  refine Tr.dup dX10_putFour_21 rfl (Eq.refl 22) ?_
  refine Tr.getf dX10_putFour_22 fX10_71 rfl rfl (Eq.refl 25) ?_
  refine Tr.iconst (v := nI 1) dX10_putFour_25 (icN 1) (Eq.refl 26) ?_
  refine Tr.iaddN dX10_putFour_26 (Eq.refl 27) ?_
  refine Tr.putf dX10_putFour_27 pX10_71 rfl (rfl) (rfl) rfl (Eq.refl 30) ?_
  refine Tr.pic (w' := mpC E ad r i (_ + 1) _) rfl ?_
  refine Tr.iinc (v := nI 16) dX10_putFour_30 rfl (by decide +kernel) rfl rfl (Eq.refl 33) ?_
  refine Tr.goto (pc' := 3) dX10_putFour_33 (by decide) ?_
  refine Tr.iload_n (i := 2) dX10_putFour_3 rfl rfl (Eq.refl 4) ?_
  refine Tr.if_lt (tgt := 36) dX10_putFour_4 (by decide) (Eq.refl 7) (fun h => absurd h (by decide)) (fun _ => ?_)
  refine Tr.aload_n (i := 0) dX10_putFour_7 rfl rfl (Eq.refl 8) ?_
  refine Tr.getf dX10_putFour_8 fX10_16 rfl rfl (Eq.refl 11) ?_
  refine Tr.aload_n (i := 0) dX10_putFour_11 rfl rfl (Eq.refl 12) ?_
  refine Tr.getf dX10_putFour_12 fX10_71 rfl rfl (Eq.refl 15) ?_
  refine Tr.iload_n (i := 1) dX10_putFour_15 rfl rfl (Eq.refl 16) ?_
  refine Tr.iload_n (i := 2) dX10_putFour_16 rfl rfl (Eq.refl 17) ?_
  refine Tr.ishr dX10_putFour_17 (Eq.refl 18) ?_
  refine Tr.i2b dX10_putFour_18 rfl (Eq.refl 19) ?_
  refine Tr.bastN dX10_putFour_19 rfl (by omega) (by decide) (Eq.refl 20) ?_
  refine Tr.pic mp_b ?_
  refine Tr.aload_n (i := 0) dX10_putFour_20 rfl rfl (Eq.refl 21) ?_
  refine Tr.dup dX10_putFour_21 rfl (Eq.refl 22) ?_
  refine Tr.getf dX10_putFour_22 fX10_71 rfl rfl (Eq.refl 25) ?_
  refine Tr.iconst (v := nI 1) dX10_putFour_25 (icN 1) (Eq.refl 26) ?_
  refine Tr.iaddN dX10_putFour_26 (Eq.refl 27) ?_
  refine Tr.putf dX10_putFour_27 pX10_71 rfl (rfl) (rfl) rfl (Eq.refl 30) ?_
  refine Tr.pic (w' := mpC E ad r i (_ + 1) _) rfl ?_
  refine Tr.iinc (v := nI 8) dX10_putFour_30 rfl (by decide +kernel) rfl rfl (Eq.refl 33) ?_
  refine Tr.goto (pc' := 3) dX10_putFour_33 (by decide) ?_
  refine Tr.iload_n (i := 2) dX10_putFour_3 rfl rfl (Eq.refl 4) ?_
  refine Tr.if_lt (tgt := 36) dX10_putFour_4 (by decide) (Eq.refl 7) (fun h => absurd h (by decide)) (fun _ => ?_)
  refine Tr.aload_n (i := 0) dX10_putFour_7 rfl rfl (Eq.refl 8) ?_
  refine Tr.getf dX10_putFour_8 fX10_16 rfl rfl (Eq.refl 11) ?_
  refine Tr.aload_n (i := 0) dX10_putFour_11 rfl rfl (Eq.refl 12) ?_
  refine Tr.getf dX10_putFour_12 fX10_71 rfl rfl (Eq.refl 15) ?_
  refine Tr.iload_n (i := 1) dX10_putFour_15 rfl rfl (Eq.refl 16) ?_
  refine Tr.iload_n (i := 2) dX10_putFour_16 rfl rfl (Eq.refl 17) ?_
  refine Tr.ishr dX10_putFour_17 (Eq.refl 18) ?_
  refine Tr.i2b dX10_putFour_18 rfl (Eq.refl 19) ?_
  refine Tr.bastN dX10_putFour_19 rfl (by omega) (by decide) (Eq.refl 20) ?_
  refine Tr.pic mp_b ?_
  refine Tr.aload_n (i := 0) dX10_putFour_20 rfl rfl (Eq.refl 21) ?_
  refine Tr.dup dX10_putFour_21 rfl (Eq.refl 22) ?_
  refine Tr.getf dX10_putFour_22 fX10_71 rfl rfl (Eq.refl 25) ?_
  refine Tr.iconst (v := nI 1) dX10_putFour_25 (icN 1) (Eq.refl 26) ?_
  refine Tr.iaddN dX10_putFour_26 (Eq.refl 27) ?_
  refine Tr.putf dX10_putFour_27 pX10_71 rfl (rfl) (rfl) rfl (Eq.refl 30) ?_
  refine Tr.pic (w' := mpC E ad r i (_ + 1) _) rfl ?_
  refine Tr.iinc (v := nI 0) dX10_putFour_30 rfl (by decide +kernel) rfl rfl (Eq.refl 33) ?_
  refine Tr.goto (pc' := 3) dX10_putFour_33 (by decide) ?_
  refine Tr.iload_n (i := 2) dX10_putFour_3 rfl rfl (Eq.refl 4) ?_
  refine Tr.if_lt (tgt := 36) dX10_putFour_4 (by decide) (Eq.refl 7) (fun h => absurd h (by decide)) (fun _ => ?_)
  refine Tr.aload_n (i := 0) dX10_putFour_7 rfl rfl (Eq.refl 8) ?_
  refine Tr.getf dX10_putFour_8 fX10_16 rfl rfl (Eq.refl 11) ?_
  refine Tr.aload_n (i := 0) dX10_putFour_11 rfl rfl (Eq.refl 12) ?_
  refine Tr.getf dX10_putFour_12 fX10_71 rfl rfl (Eq.refl 15) ?_
  refine Tr.iload_n (i := 1) dX10_putFour_15 rfl rfl (Eq.refl 16) ?_
  refine Tr.iload_n (i := 2) dX10_putFour_16 rfl rfl (Eq.refl 17) ?_
  refine Tr.ishr dX10_putFour_17 (Eq.refl 18) ?_
  refine Tr.i2b dX10_putFour_18 rfl (Eq.refl 19) ?_
  refine Tr.bastN dX10_putFour_19 rfl (by omega) (by decide) (Eq.refl 20) ?_
  refine Tr.pic mp_b ?_
  refine Tr.aload_n (i := 0) dX10_putFour_20 rfl rfl (Eq.refl 21) ?_
  refine Tr.dup dX10_putFour_21 rfl (Eq.refl 22) ?_
  refine Tr.getf dX10_putFour_22 fX10_71 rfl rfl (Eq.refl 25) ?_
  refine Tr.iconst (v := nI 1) dX10_putFour_25 (icN 1) (Eq.refl 26) ?_
  refine Tr.iaddN dX10_putFour_26 (Eq.refl 27) ?_
  refine Tr.putf dX10_putFour_27 pX10_71 rfl (rfl) (rfl) rfl (Eq.refl 30) ?_
  refine Tr.pic (w' := mpC E ad r i (_ + 1) _) rfl ?_
  refine Tr.iinc (v := (-8)) dX10_putFour_30 rfl (by decide +kernel) rfl rfl (Eq.refl 33) ?_
  refine Tr.goto (pc' := 3) dX10_putFour_33 (by decide) ?_
  refine Tr.iload_n (i := 2) dX10_putFour_3 rfl rfl (Eq.refl 4) ?_
  refine Tr.if_lt (tgt := 36) dX10_putFour_4 (by decide) (Eq.refl 7) (fun _ => ?_) (fun h => absurd h (by decide))
  refine Tr.ret dX10_putFour_36 rfl rfl ?_
  · rfl
theorem mp_le {E E2 : EnvT} {ad r ad2 r2 : Nat → Nat} {i i2 : Nat → Int32} {tp tp2 : Nat} {b b2 : Nat → Int32} : (mpC E ad r i tp b).length ≤ (mpC E2 ad2 r2 i2 tp2 b2).length := Nat.le_refl 2
set_option maxHeartbeats 4000000 in
set_option maxRecDepth 100000 in
theorem m_feed (E : EnvT) (ad r : Nat → Nat) (i : Nat → Int32) (tp : Nat) (b : Nat → Int32) (v1 v2 v3 v4 v5 : Int32) (ht : tp ≤ 900) : Md E mX10_feed ad [.ref (ad 0), .int v1, .int v2, .int v3, .int v4, .int v5] (mpC E ad r i tp b) (some (.int (if 900 < tp + 20 then -3 else nI (tp + 4 + 4 + 4 + 4 + 4)))) (if 900 < tp + 20 then mpC E ad r i tp b else mpC E ad r i (tp + 4 + 4 + 4 + 4 + 4) (p4F (p4F (p4F (p4F (p4F b tp v1) (tp + 4) v2) (tp + 4 + 4) v3) (tp + 4 + 4 + 4) v4) (tp + 4 + 4 + 4 + 4) v5)) := by
  by_cases hc : 900 < tp + 20
  · rw [if_pos hc, if_pos hc]
    refine Md.of 0 (by decide) rfl rfl ?_
    refine Tr.aload_n (i := 0) dX10_feed_0 rfl rfl (Eq.refl 1) ?_
    refine Tr.getf dX10_feed_1 fX10_71 rfl rfl (Eq.refl 4) ?_
    refine Tr.bipush (v := nI 20) dX10_feed_4 (by decide +kernel) (Eq.refl 6) ?_
    refine Tr.iaddN dX10_feed_6 (Eq.refl 7) ?_
    refine Tr.sipush (v := nI 900) dX10_feed_7 (by decide +kernel) (Eq.refl 10) ?_
    refine Tr.icmp_leN (tgt := 16) dX10_feed_10 (by decide) (Eq.refl 13) (by omega) (by omega) (fun h10 => ?_) (fun h10 => ?_)
    · exact absurd h10 (by omega)
    · refine Tr.bipush (v := (-3)) dX10_feed_13 (by decide +kernel) (Eq.refl 15) ?_
      refine Tr.iret dX10_feed_15 rfl (by first | rfl | exact bI_nar _) ?_ ?_
      · rfl
      · rfl
  · rw [if_neg hc, if_neg hc]
    refine Md.of 0 (by decide) rfl rfl ?_
    refine Tr.aload_n (i := 0) dX10_feed_0 rfl rfl (Eq.refl 1) ?_
    refine Tr.getf dX10_feed_1 fX10_71 rfl rfl (Eq.refl 4) ?_
    refine Tr.bipush (v := nI 20) dX10_feed_4 (by decide +kernel) (Eq.refl 6) ?_
    refine Tr.iaddN dX10_feed_6 (Eq.refl 7) ?_
    refine Tr.sipush (v := nI 900) dX10_feed_7 (by decide +kernel) (Eq.refl 10) ?_
    refine Tr.icmp_leN (tgt := 16) dX10_feed_10 (by decide) (Eq.refl 13) (by omega) (by omega) (fun h10 => ?_) (fun h10 => ?_)
    · refine Tr.aload_n (i := 0) dX10_feed_16 rfl rfl (Eq.refl 17) ?_
      refine Tr.iload_n (i := 1) dX10_feed_17 rfl rfl (Eq.refl 18) ?_
      refine Tr.callVs (m_putFour E ad r i tp b v1 (by omega)) dX10_feed_18 (kX10_272 (Nat.le_of_ble_eq_true rfl)) iX10_putFour rfl rfl rfl rfl rfl (mp_le) rfl rfl (Eq.refl 21) ?_
      refine Tr.aload_n (i := 0) dX10_feed_21 rfl rfl (Eq.refl 22) ?_
      refine Tr.iload_n (i := 2) dX10_feed_22 rfl rfl (Eq.refl 23) ?_
      refine Tr.callVs (m_putFour E ad r i (tp + 4) (p4F b tp v1) v2 (by omega)) dX10_feed_23 (kX10_272 (Nat.le_of_ble_eq_true rfl)) iX10_putFour rfl rfl rfl rfl rfl (mp_le) rfl rfl (Eq.refl 26) ?_
      refine Tr.aload_n (i := 0) dX10_feed_26 rfl rfl (Eq.refl 27) ?_
      refine Tr.iload_n (i := 3) dX10_feed_27 rfl rfl (Eq.refl 28) ?_
      refine Tr.callVs (m_putFour E ad r i (tp + 4 + 4) (p4F (p4F b tp v1) (tp + 4) v2) v3 (by omega)) dX10_feed_28 (kX10_272 (Nat.le_of_ble_eq_true rfl)) iX10_putFour rfl rfl rfl rfl rfl (mp_le) rfl rfl (Eq.refl 31) ?_
      refine Tr.aload_n (i := 0) dX10_feed_31 rfl rfl (Eq.refl 32) ?_
      refine Tr.iload dX10_feed_32 rfl (Eq.refl 34) ?_
      refine Tr.callVs (m_putFour E ad r i (tp + 4 + 4 + 4) (p4F (p4F (p4F b tp v1) (tp + 4) v2) (tp + 4 + 4) v3) v4 (by omega)) dX10_feed_34 (kX10_272 (Nat.le_of_ble_eq_true rfl)) iX10_putFour rfl rfl rfl rfl rfl (mp_le) rfl rfl (Eq.refl 37) ?_
      refine Tr.aload_n (i := 0) dX10_feed_37 rfl rfl (Eq.refl 38) ?_
      refine Tr.iload dX10_feed_38 rfl (Eq.refl 40) ?_
      refine Tr.callVs (m_putFour E ad r i (tp + 4 + 4 + 4 + 4) (p4F (p4F (p4F (p4F b tp v1) (tp + 4) v2) (tp + 4 + 4) v3) (tp + 4 + 4 + 4) v4) v5 (by omega)) dX10_feed_40 (kX10_272 (Nat.le_of_ble_eq_true rfl)) iX10_putFour rfl rfl rfl rfl rfl (mp_le) rfl rfl (Eq.refl 43) ?_
      refine Tr.aload_n (i := 0) dX10_feed_43 rfl rfl (Eq.refl 44) ?_
      refine Tr.getf dX10_feed_44 fX10_71 rfl rfl (Eq.refl 47) ?_
      refine Tr.iret dX10_feed_47 rfl (by first | rfl | exact bI_nar _) ?_ ?_
      · rfl
      · rfl
    · exact absurd h10 (by omega)
set_option maxHeartbeats 4000000 in
set_option maxRecDepth 100000 in
theorem m_end (E : EnvT) (ad r : Nat → Nat) (i : Nat → Int32) (tp : Nat) (b : Nat → Int32) (x : Int32) (ht : tp ≤ 900) : Md E mX10_end ad [.ref (ad 0), .int x] (mpC E ad r i tp b) (some (.int (if rgB x (nI 0) (nI tp) then x else -1))) (mpC E ad r i (if rgB x (nI 0) (nI tp) then nN x else tp) b) := by
  by_cases hc : rgB x (nI 0) (nI tp) = true
  · rw [if_pos hc, if_pos hc]
    obtain ⟨n, -, hn, rfl⟩ := rgB_n (by omega) (by omega) hc
    rw [nN_n (by omega)]
    refine Md.of 0 (by decide) rfl rfl ?_
    refine Tr.iload_n (i := 1) dX10_end_0 rfl rfl (Eq.refl 1) ?_
    refine Tr.i2l dX10_end_1 rfl (Eq.refl 2) ?_
    refine Tr.lconst (v := 0) dX10_end_2 (by decide +kernel) (Eq.refl 3) ?_
    refine Tr.aload_n (i := 0) dX10_end_3 rfl rfl (Eq.refl 4) ?_
    refine Tr.getf dX10_end_4 fX10_71 rfl rfl (Eq.refl 7) ?_
    refine Tr.i2l dX10_end_7 rfl (Eq.refl 8) ?_
    refine Tr.callSr (L := []) (m_in E _ (nI n).toInt64 0 (nI tp).toInt64) dX10_end_8 (kX10_52 (Nat.le_of_ble_eq_true rfl)) sX10_in rfl rfl rfl rfl rfl rfl rfl (Eq.refl 11) ?_
    rw [in32' (nI n) (a := nI 0) (b := nI tp) (by decide) rfl]
    refine Tr.if_neB (tgt := 16) dX10_end_11 (by decide) (Eq.refl 14) (fun h11 => ?_) (fun h11 => ?_)
    · refine Tr.aload_n (i := 0) dX10_end_16 rfl rfl (Eq.refl 17) ?_
      refine Tr.iload_n (i := 1) dX10_end_17 rfl rfl (Eq.refl 18) ?_
      refine Tr.putf dX10_end_18 pX10_71 rfl (rfl) (rfl) rfl (Eq.refl 21) ?_
      refine Tr.iload_n (i := 1) dX10_end_21 rfl rfl (Eq.refl 22) ?_
      refine Tr.iret dX10_end_22 rfl (by first | rfl | exact bI_nar _) ?_ ?_
      · rfl
      · rfl
    · exact absurd (hc.symm.trans h11) (by decide)
  · rw [if_neg hc, if_neg hc]
    refine Md.of 0 (by decide) rfl rfl ?_
    refine Tr.iload_n (i := 1) dX10_end_0 rfl rfl (Eq.refl 1) ?_
    refine Tr.i2l dX10_end_1 rfl (Eq.refl 2) ?_
    refine Tr.lconst (v := 0) dX10_end_2 (by decide +kernel) (Eq.refl 3) ?_
    refine Tr.aload_n (i := 0) dX10_end_3 rfl rfl (Eq.refl 4) ?_
    refine Tr.getf dX10_end_4 fX10_71 rfl rfl (Eq.refl 7) ?_
    refine Tr.i2l dX10_end_7 rfl (Eq.refl 8) ?_
    refine Tr.callSr (L := []) (m_in E _ x.toInt64 0 (nI tp).toInt64) dX10_end_8 (kX10_52 (Nat.le_of_ble_eq_true rfl)) sX10_in rfl rfl rfl rfl rfl rfl rfl (Eq.refl 11) ?_
    rw [in32' x (a := nI 0) (b := nI tp) (by decide) rfl]
    refine Tr.if_neB (tgt := 16) dX10_end_11 (by decide) (Eq.refl 14) (fun h11 => ?_) (fun h11 => ?_)
    · exact absurd h11 hc
    · refine Tr.iconst (v := (-1)) dX10_end_14 (by decide +kernel) (Eq.refl 15) ?_
      refine Tr.iret dX10_end_15 rfl (by first | rfl | exact bI_nar _) ?_ ?_
      · rfl
      · rfl
