/-! Teller: clauses -/
theorem nl_un : Cond.fieldLinkNest RX7 63 "OwnedByGuests" "RULE_UNTOLD" "[I" "OwnedByGuests" ∈ lw_tbl := List.mem_of_getElem? (i := 495) (by decide +kernel)
theorem nl_le : Cond.fieldLinkNest RX5 165 "OwnedByGuests" "RULE_LEAST" "[I" "OwnedByGuests" ∈ lw_tbl := List.mem_of_getElem? (i := 718) (by decide +kernel)
theorem nl_mo : Cond.fieldLinkNest RX5 168 "OwnedByGuests" "RULE_MOST" "[I" "OwnedByGuests" ∈ lw_tbl := List.mem_of_getElem? (i := 720) (by decide +kernel)
/-- the token in hand is the text -/
def wdP (T : Nat → Nat) (len p t : Nat) : Bool := wdB T (tkS T len p) (tkE T len p) (tkK T len p) t
def ruN (T : Nat → Nat) (len p : Nat) : Nat := if wdP T len p 6 then 0 else if wdP T len p 7 then 1 else if wdP T len p 8 then 2 else if wdP T len p 9 then 3 else if wdP T len p 10 then 4 else if wdP T len p 11 then 5 else 6
def rcI (c : Nat) : Int32 := if c < 6 then nI c else -1
theorem ruN_le (T : Nat → Nat) (len p : Nat) : ruN T len p ≤ 6 := by
  unfold ruN
  repeat' split
  all_goals omega
set_option maxHeartbeats 4000000 in
set_option maxRecDepth 100000 in
theorem l_ruleRead (E : EnvT) (ad : Nat → Nat) (len : Nat) (T : Nat → Nat) (p : Fin (len + 1)) (V : Vil) (X : Vix) (f : Nat) (pl : Int32) (hl : len ≤ 900) (hT : ∀ k, k < 900 → T k < 256) : Md E mX5_ruleRead ad [.ref (ad 0)] (tlC E ad len T p.1 V X f pl) (some (.int (rcI (ruN T len p.1)))) (tlC E ad len T p.1 V X f pl) := by
  have hk := tkK_lt T len p.1
  have hse := tkE_le T (Nat.le_of_lt_succ p.2)
  have hx : ruN T len p.1 = if wdB T (tkS T len p.1) (tkE T len p.1) (tkK T len p.1) 6 then 0 else if wdB T (tkS T len p.1) (tkE T len p.1) (tkK T len p.1) 7 then 1 else if wdB T (tkS T len p.1) (tkE T len p.1) (tkK T len p.1) 8 then 2 else if wdB T (tkS T len p.1) (tkE T len p.1) (tkK T len p.1) 9 then 3 else if wdB T (tkS T len p.1) (tkE T len p.1) (tkK T len p.1) 10 then 4 else if wdB T (tkS T len p.1) (tkE T len p.1) (tkK T len p.1) 11 then 5 else 6 := rfl
  rw [hx]
  clear hx
  refine Md.of 0 (by decide) rfl rfl ?_
  refine Tr.aload_n (i := 0) dX5_ruleRead_0 rfl rfl (Eq.refl 1) ?_
  refine Tr.getf dX5_ruleRead_1 fX5_22 rfl rfl (Eq.refl 4) ?_
  refine Tr.ldcS dX5_ruleRead_4 (by decide +kernel : (RX5, 171, 6) ∈ strT) (Eq.refl 6) ?_
  refine Tr.callVr (L := [1, 2]) (t_reads E _ len (tkE T len p.1) (tkK T len p.1) (tkS T len p.1) (tkN T len p.1) (tkM T len p.1) T 6 (by decide) hl hT hse.1 hse.2 (by omega)) dX5_ruleRead_6 (kX5_43 (Nat.le_of_ble_eq_true rfl)) iX4_reads rfl rfl rfl rfl rfl rfl rfl rfl rfl (Eq.refl 9) ?_
  refine Tr.if_eqB (tgt := 14) dX5_ruleRead_9 (by decide) (Eq.refl 12) (fun h9 => ?_) (fun h9 => ?_)
  · rw [if_neg (by rw [h9]; decide)]
    refine Tr.aload_n (i := 0) dX5_ruleRead_14 rfl rfl (Eq.refl 15) ?_
    refine Tr.getf dX5_ruleRead_15 fX5_22 rfl rfl (Eq.refl 18) ?_
    refine Tr.ldcS dX5_ruleRead_18 (by decide +kernel : (RX5, 173, 7) ∈ strT) (Eq.refl 20) ?_
    refine Tr.callVr (L := [1, 2]) (t_reads E _ len (tkE T len p.1) (tkK T len p.1) (tkS T len p.1) (tkN T len p.1) (tkM T len p.1) T 7 (by decide) hl hT hse.1 hse.2 (by omega)) dX5_ruleRead_20 (kX5_43 (Nat.le_of_ble_eq_true rfl)) iX4_reads rfl rfl rfl rfl rfl rfl rfl rfl rfl (Eq.refl 23) ?_
    refine Tr.if_eqB (tgt := 28) dX5_ruleRead_23 (by decide) (Eq.refl 26) (fun h23 => ?_) (fun h23 => ?_)
    · rw [if_neg (by rw [h23]; decide)]
      refine Tr.aload_n (i := 0) dX5_ruleRead_28 rfl rfl (Eq.refl 29) ?_
      refine Tr.getf dX5_ruleRead_29 fX5_22 rfl rfl (Eq.refl 32) ?_
      refine Tr.ldcS dX5_ruleRead_32 (by decide +kernel : (RX5, 175, 8) ∈ strT) (Eq.refl 34) ?_
      refine Tr.callVr (L := [1, 2]) (t_reads E _ len (tkE T len p.1) (tkK T len p.1) (tkS T len p.1) (tkN T len p.1) (tkM T len p.1) T 8 (by decide) hl hT hse.1 hse.2 (by omega)) dX5_ruleRead_34 (kX5_43 (Nat.le_of_ble_eq_true rfl)) iX4_reads rfl rfl rfl rfl rfl rfl rfl rfl rfl (Eq.refl 37) ?_
      refine Tr.if_eqB (tgt := 42) dX5_ruleRead_37 (by decide) (Eq.refl 40) (fun h37 => ?_) (fun h37 => ?_)
      · rw [if_neg (by rw [h37]; decide)]
        refine Tr.aload_n (i := 0) dX5_ruleRead_42 rfl rfl (Eq.refl 43) ?_
        refine Tr.getf dX5_ruleRead_43 fX5_22 rfl rfl (Eq.refl 46) ?_
        refine Tr.ldcS dX5_ruleRead_46 (by decide +kernel : (RX5, 177, 9) ∈ strT) (Eq.refl 48) ?_
        refine Tr.callVr (L := [1, 2]) (t_reads E _ len (tkE T len p.1) (tkK T len p.1) (tkS T len p.1) (tkN T len p.1) (tkM T len p.1) T 9 (by decide) hl hT hse.1 hse.2 (by omega)) dX5_ruleRead_48 (kX5_43 (Nat.le_of_ble_eq_true rfl)) iX4_reads rfl rfl rfl rfl rfl rfl rfl rfl rfl (Eq.refl 51) ?_
        refine Tr.if_eqB (tgt := 56) dX5_ruleRead_51 (by decide) (Eq.refl 54) (fun h51 => ?_) (fun h51 => ?_)
        · rw [if_neg (by rw [h51]; decide)]
          refine Tr.aload_n (i := 0) dX5_ruleRead_56 rfl rfl (Eq.refl 57) ?_
          refine Tr.getf dX5_ruleRead_57 fX5_22 rfl rfl (Eq.refl 60) ?_
          refine Tr.ldcS dX5_ruleRead_60 (by decide +kernel : (RX5, 179, 10) ∈ strT) (Eq.refl 62) ?_
          refine Tr.callVr (L := [1, 2]) (t_reads E _ len (tkE T len p.1) (tkK T len p.1) (tkS T len p.1) (tkN T len p.1) (tkM T len p.1) T 10 (by decide) hl hT hse.1 hse.2 (by omega)) dX5_ruleRead_62 (kX5_43 (Nat.le_of_ble_eq_true rfl)) iX4_reads rfl rfl rfl rfl rfl rfl rfl rfl rfl (Eq.refl 65) ?_
          refine Tr.if_eqB (tgt := 70) dX5_ruleRead_65 (by decide) (Eq.refl 68) (fun h65 => ?_) (fun h65 => ?_)
          · rw [if_neg (by rw [h65]; decide)]
            refine Tr.aload_n (i := 0) dX5_ruleRead_70 rfl rfl (Eq.refl 71) ?_
            refine Tr.getf dX5_ruleRead_71 fX5_22 rfl rfl (Eq.refl 74) ?_
            refine Tr.ldcS dX5_ruleRead_74 (by decide +kernel : (RX5, 181, 11) ∈ strT) (Eq.refl 76) ?_
            refine Tr.callVr (L := [1, 2]) (t_reads E _ len (tkE T len p.1) (tkK T len p.1) (tkS T len p.1) (tkN T len p.1) (tkM T len p.1) T 11 (by decide) hl hT hse.1 hse.2 (by omega)) dX5_ruleRead_76 (kX5_43 (Nat.le_of_ble_eq_true rfl)) iX4_reads rfl rfl rfl rfl rfl rfl rfl rfl rfl (Eq.refl 79) ?_
            refine Tr.if_eqB (tgt := 86) dX5_ruleRead_79 (by decide) (Eq.refl 82) (fun h79 => ?_) (fun h79 => ?_)
            · rw [if_neg (by rw [h79]; decide)]
              refine Tr.iconst (v := (-1)) dX5_ruleRead_86 (by decide +kernel) (Eq.refl 87) ?_
              refine Tr.iret dX5_ruleRead_87 rfl (by first | rfl | exact bI_nar _) ?_ ?_
              · rfl
              · rfl
            · rw [if_pos h79]
              refine Tr.iconst (v := nI 5) dX5_ruleRead_82 (icN 5) (Eq.refl 83) ?_
              refine Tr.goto (pc' := 87) dX5_ruleRead_83 (by decide) ?_
              refine Tr.iret dX5_ruleRead_87 rfl (by first | rfl | exact bI_nar _) ?_ ?_
              · rfl
              · rfl
          · rw [if_pos h65]
            refine Tr.iconst (v := nI 4) dX5_ruleRead_68 (icN 4) (Eq.refl 69) ?_
            refine Tr.iret dX5_ruleRead_69 rfl (by first | rfl | exact bI_nar _) ?_ ?_
            · rfl
            · rfl
        · rw [if_pos h51]
          refine Tr.iconst (v := nI 3) dX5_ruleRead_54 (icN 3) (Eq.refl 55) ?_
          refine Tr.iret dX5_ruleRead_55 rfl (by first | rfl | exact bI_nar _) ?_ ?_
          · rfl
          · rfl
      · rw [if_pos h37]
        refine Tr.iconst (v := nI 2) dX5_ruleRead_40 (icN 2) (Eq.refl 41) ?_
        refine Tr.iret dX5_ruleRead_41 rfl (by first | rfl | exact bI_nar _) ?_ ?_
        · rfl
        · rfl
    · rw [if_pos h23]
      refine Tr.iconst (v := nI 1) dX5_ruleRead_26 (icN 1) (Eq.refl 27) ?_
      refine Tr.iret dX5_ruleRead_27 rfl (by first | rfl | exact bI_nar _) ?_ ?_
      · rfl
      · rfl
  · rw [if_pos h9]
    refine Tr.iconst (v := nI 0) dX5_ruleRead_12 (icN 0) (Eq.refl 13) ?_
    refine Tr.iret dX5_ruleRead_13 rfl (by first | rfl | exact bI_nar _) ?_ ?_
    · rfl
    · rfl
def tlLa (T : Nat → Nat) {len : Nat} (z : Tlt len) : Tlt len := if laV z.2.1 then blm T z 3 else (nxP T len z.1, vLa z.2.1 true, z.2.2)
set_option maxHeartbeats 4000000 in
set_option maxRecDepth 100000 in
theorem l_tellLast (E : EnvT) (ad : Nat → Nat) (len : Nat) (T : Nat → Nat) (z : Tlt len) (hl : len ≤ 900) (hT : ∀ k, k < 900 → T k < 256) : Md E mX5_tellLast ad [.ref (ad 0)] (tlP E ad len T z) none (tlP E ad len T (tlLa T z)) := by
  obtain ⟨p, V, X, f, pl⟩ := z
  have hx : tlLa T (p, V, X, f, pl) = if laV V then (p, V, X, 3, nI (tkS T len p.1)) else (nxP T len p, vLa V true, X, f, pl) := rfl
  rw [hx]
  clear hx
  show Md E _ ad _ (tlC E ad len T p.1 V X f pl) _ _
  refine Md.of 0 (by decide) rfl rfl ?_
  refine Tr.aload_n (i := 0) dX5_tellLast_0 rfl rfl (Eq.refl 1) ?_
  refine Tr.getf dX5_tellLast_1 fX5_12 rfl rfl (Eq.refl 4) ?_
  refine Tr.getf dX5_tellLast_4 fX5_152 rfl rfl (Eq.refl 7) ?_
  refine Tr.if_eqB (tgt := 16) dX5_tellLast_7 (by decide) (Eq.refl 10) (fun h7 => ?_) (fun h7 => ?_)
  · rw [if_neg (by rw [h7]; decide)]
    refine Tr.aload_n (i := 0) dX5_tellLast_16 rfl rfl (Eq.refl 17) ?_
    refine Tr.getf dX5_tellLast_17 fX5_12 rfl rfl (Eq.refl 20) ?_
    refine Tr.iconst (v := nI 1) dX5_tellLast_20 (icN 1) (Eq.refl 21) ?_
    refine Tr.putf dX5_tellLast_21 pX5_152 rfl (rfl) (rfl) rfl (Eq.refl 24) ?_
    refine Tr.pic (w' := (tlC E ad len T p.1 (vLa V true) X f pl)) rfl ?_
    refine Tr.aload_n (i := 0) dX5_tellLast_24 rfl rfl (Eq.refl 25) ?_
    refine Tr.getf dX5_tellLast_25 fX5_22 rfl rfl (Eq.refl 28) ?_
    refine Tr.callV (L := [1, 2]) (t_readToken E _ len (tkE T len p.1) (tkK T len p.1) (tkS T len p.1) (tkN T len p.1) (tkM T len p.1) T hl hT (tkE_le T (Nat.le_of_lt_succ p.2)).2) dX5_tellLast_28 (kX5_80 (Nat.le_of_ble_eq_true rfl)) iX4_readToken rfl rfl rfl rfl rfl rfl rfl rfl rfl rfl (Eq.refl 31) ?_
    refine Tr.pic (w' := tlC E ad len T (nxP T len p).1 (vLa V true) X f pl) (putB_eq (Lc := [0, 3, 4, 5, 6, 7, 8, 9, 10, 11, 12, 13]) 14 rfl rfl rfl rfl ⟨⟨_, rfl, rfl⟩, ⟨_, rfl, rfl⟩, ⟨_, rfl, rfl⟩, ⟨_, rfl, rfl⟩, ⟨_, rfl, rfl⟩, ⟨_, rfl, rfl⟩, ⟨_, rfl, rfl⟩, ⟨_, rfl, rfl⟩, ⟨_, rfl, rfl⟩, ⟨_, rfl, rfl⟩, ⟨_, rfl, rfl⟩, ⟨_, rfl, rfl⟩, trivial⟩ (by decide) rfl) ?_
    refine Tr.ret dX5_tellLast_31 rfl rfl ?_
    · rfl
  · rw [if_pos h7]
    refine Tr.aload_n (i := 0) dX5_tellLast_10 rfl rfl (Eq.refl 11) ?_
    refine Tr.iconst (v := nI 3) dX5_tellLast_11 (icN 3) (Eq.refl 12) ?_
    refine Tr.callVs (l_blame E ad len T p V X f pl 3) dX5_tellLast_12 (kX5_73 (Nat.le_of_ble_eq_true rfl)) iX5_blame rfl rfl rfl rfl rfl (tl_len) rfl rfl (Eq.refl 15) ?_
    refine Tr.ret dX5_tellLast_15 rfl rfl ?_
    · rfl
/-- a rule: the told bits, the rest -/
def tlRu (T : Nat → Nat) {len : Nat} (z : Tlt len) : Tlt len :=
  if ruN T len z.1.1 < 6 then (if bt z.2.2.1.2.1 (ruN T len z.1.1) then blm T z 3 else
    ((rdN T (ruL (ruN T len z.1.1)) (ruM (ruN T len z.1.1)) (nxP T len z.1, z.2.1, (z.2.2.1.1, z.2.2.1.2.1 ||| (nI 1 <<< (nI (ruN T len z.1.1) &&& 31)), z.2.2.1.2.2), z.2.2.2)).2.1,
      vRu (rdN T (ruL (ruN T len z.1.1)) (ruM (ruN T len z.1.1)) (nxP T len z.1, z.2.1, (z.2.2.1.1, z.2.2.1.2.1 ||| (nI 1 <<< (nI (ruN T len z.1.1) &&& 31)), z.2.2.1.2.2), z.2.2.2)).2.2.1 (upd (ruV (rdN T (ruL (ruN T len z.1.1)) (ruM (ruN T len z.1.1)) (nxP T len z.1, z.2.1, (z.2.2.1.1, z.2.2.1.2.1 ||| (nI 1 <<< (nI (ruN T len z.1.1) &&& 31)), z.2.2.1.2.2), z.2.2.2)).2.2.1) (ruN T len z.1.1) (nI (rdN T (ruL (ruN T len z.1.1)) (ruM (ruN T len z.1.1)) (nxP T len z.1, z.2.1, (z.2.2.1.1, z.2.2.1.2.1 ||| (nI 1 <<< (nI (ruN T len z.1.1) &&& 31)), z.2.2.1.2.2), z.2.2.2)).1)),
      (rdN T (ruL (ruN T len z.1.1)) (ruM (ruN T len z.1.1)) (nxP T len z.1, z.2.1, (z.2.2.1.1, z.2.2.1.2.1 ||| (nI 1 <<< (nI (ruN T len z.1.1) &&& 31)), z.2.2.1.2.2), z.2.2.2)).2.2.2)) else blm T z 1
set_option maxHeartbeats 4000000 in
set_option maxRecDepth 100000 in
theorem l_tellRule (E : EnvT) (ad : Nat → Nat) (len : Nat) (T : Nat → Nat) (z : Tlt len) (hl : len ≤ 900) (hT : ∀ k, k < 900 → T k < 256) (hf : z.2.2.2.1 < 6) : Md E mX5_tellRule ad [.ref (ad 0)] (tlP E ad len T z) none (tlP E ad len T (tlRu T z)) := by
  obtain ⟨p, V, X, f, pl⟩ := z
  have hf : f < 6 := hf
  have hc6 := ruN_le T len p.1
  have hRR := l_ruleRead E ad len T p V X f pl hl hT
  have hx : tlRu T (p, V, X, f, pl) = if ruN T len p.1 < 6 then (if bt X.2.1 (ruN T len p.1) then (p, V, X, 3, nI (tkS T len p.1)) else ((rdN T (ruL (ruN T len p.1)) (ruM (ruN T len p.1)) (nxP T len p, V, (X.1, X.2.1 ||| (nI 1 <<< (nI (ruN T len p.1) &&& 31)), X.2.2), f, pl)).2.1, vRu (rdN T (ruL (ruN T len p.1)) (ruM (ruN T len p.1)) (nxP T len p, V, (X.1, X.2.1 ||| (nI 1 <<< (nI (ruN T len p.1) &&& 31)), X.2.2), f, pl)).2.2.1 (upd (ruV (rdN T (ruL (ruN T len p.1)) (ruM (ruN T len p.1)) (nxP T len p, V, (X.1, X.2.1 ||| (nI 1 <<< (nI (ruN T len p.1) &&& 31)), X.2.2), f, pl)).2.2.1) (ruN T len p.1) (nI (rdN T (ruL (ruN T len p.1)) (ruM (ruN T len p.1)) (nxP T len p, V, (X.1, X.2.1 ||| (nI 1 <<< (nI (ruN T len p.1) &&& 31)), X.2.2), f, pl)).1)), (rdN T (ruL (ruN T len p.1)) (ruM (ruN T len p.1)) (nxP T len p, V, (X.1, X.2.1 ||| (nI 1 <<< (nI (ruN T len p.1) &&& 31)), X.2.2), f, pl)).2.2.2)) else (p, V, X, 1, nI (tkS T len p.1)) := rfl
  rw [hx]
  clear hx
  generalize ruN T len p.1 = c at *
  show Md E _ ad _ (tlC E ad len T p.1 V X f pl) _ _
  by_cases hc : c < 6
  · rw [if_pos hc]
    rw [show rcI c = nI c from if_pos hc] at hRR
    have hRN := l_readNumber E ad len T (ruL c) (ruM c) (nxP T len p, V, (X.1, X.2.1 ||| (nI 1 <<< (nI c &&& 31)), X.2.2), f, pl) hl hT hf
    refine Md.of 1 (by decide) rfl rfl ?_
    refine Tr.aload_n (i := 0) dX5_tellRule_0 rfl rfl (Eq.refl 1) ?_
    refine Tr.callVs (hRR) dX5_tellRule_1 (kX5_156 (Nat.le_of_ble_eq_true rfl)) iX5_ruleRead rfl rfl rfl rfl rfl (tl_len) rfl rfl (Eq.refl 4) ?_
    refine Tr.istore_n (i := 1) dX5_tellRule_4 rfl rfl rfl (Eq.refl 5) ?_
    refine Tr.iload_n (i := 1) dX5_tellRule_5 rfl rfl (Eq.refl 6) ?_
    refine Tr.iconst (v := (-1)) dX5_tellRule_6 (by decide +kernel) (Eq.refl 7) ?_
    refine Tr.icmp_ne (tgt := 16) dX5_tellRule_7 (by decide) (Eq.refl 10) (fun h7 => ?_) (fun h7 => ?_)
    · refine Tr.aload_n (i := 0) dX5_tellRule_16 rfl rfl (Eq.refl 17) ?_
      refine Tr.getf dX5_tellRule_17 fX5_12 rfl rfl (Eq.refl 20) ?_
      refine Tr.getf dX5_tellRule_20 fX5_159 rfl rfl (Eq.refl 23) ?_
      refine Tr.iload_n (i := 1) dX5_tellRule_23 rfl rfl (Eq.refl 24) ?_
      refine Tr.ishr dX5_tellRule_24 (Eq.refl 25) ?_
      refine Tr.iconst (v := nI 1) dX5_tellRule_25 (icN 1) (Eq.refl 26) ?_
      refine Tr.iand dX5_tellRule_26 (Eq.refl 27) ?_
      refine Tr.iconst (v := nI 1) dX5_tellRule_27 (icN 1) (Eq.refl 28) ?_
      refine Tr.icmp_ne (tgt := 37) dX5_tellRule_28 (by decide) (Eq.refl 31) (fun h28 => ?_) (fun h28 => ?_)
      · rw [if_neg (show ¬ bt X.2.1 c = true by unfold bt; rw [decide_eq_false h28]; decide)]
        refine Tr.aload_n (i := 0) dX5_tellRule_37 rfl rfl (Eq.refl 38) ?_
        refine Tr.getf dX5_tellRule_38 fX5_12 rfl rfl (Eq.refl 41) ?_
        refine Tr.dup dX5_tellRule_41 rfl (Eq.refl 42) ?_
        refine Tr.getf dX5_tellRule_42 fX5_159 rfl rfl (Eq.refl 45) ?_
        refine Tr.iconst (v := nI 1) dX5_tellRule_45 (icN 1) (Eq.refl 46) ?_
        refine Tr.iload_n (i := 1) dX5_tellRule_46 rfl rfl (Eq.refl 47) ?_
        refine Tr.ishl dX5_tellRule_47 (Eq.refl 48) ?_
        refine Tr.ior dX5_tellRule_48 (Eq.refl 49) ?_
        refine Tr.putf dX5_tellRule_49 pX5_159 rfl (rfl) (rfl) rfl (Eq.refl 52) ?_
        refine Tr.pic (w' := (tlC E ad len T p.1 V (X.1, X.2.1 ||| (nI 1 <<< (nI c &&& 31)), X.2.2) f pl)) rfl ?_
        refine Tr.aload_n (i := 0) dX5_tellRule_52 rfl rfl (Eq.refl 53) ?_
        refine Tr.getf dX5_tellRule_53 fX5_22 rfl rfl (Eq.refl 56) ?_
        refine Tr.callV (L := [1, 2]) (t_readToken E _ len (tkE T len p.1) (tkK T len p.1) (tkS T len p.1) (tkN T len p.1) (tkM T len p.1) T hl hT (tkE_le T (Nat.le_of_lt_succ p.2)).2) dX5_tellRule_56 (kX5_80 (Nat.le_of_ble_eq_true rfl)) iX4_readToken rfl rfl rfl rfl rfl rfl rfl rfl rfl rfl (Eq.refl 59) ?_
        refine Tr.pic (w' := tlC E ad len T (nxP T len p).1 V (X.1, X.2.1 ||| (nI 1 <<< (nI c &&& 31)), X.2.2) f pl) (putB_eq (Lc := [0, 3, 4, 5, 6, 7, 8, 9, 10, 11, 12, 13]) 14 rfl rfl rfl rfl ⟨⟨_, rfl, rfl⟩, ⟨_, rfl, rfl⟩, ⟨_, rfl, rfl⟩, ⟨_, rfl, rfl⟩, ⟨_, rfl, rfl⟩, ⟨_, rfl, rfl⟩, ⟨_, rfl, rfl⟩, ⟨_, rfl, rfl⟩, ⟨_, rfl, rfl⟩, ⟨_, rfl, rfl⟩, ⟨_, rfl, rfl⟩, ⟨_, rfl, rfl⟩, trivial⟩ (by decide) rfl) ?_
        refine Tr.aload_n (i := 0) dX5_tellRule_59 rfl rfl (Eq.refl 60) ?_
        refine Tr.getf dX5_tellRule_60 fX5_12 rfl rfl (Eq.refl 63) ?_
        refine Tr.getf dX5_tellRule_63 fX5_162 rfl rfl (Eq.refl 66) ?_
        refine Tr.iload_n (i := 1) dX5_tellRule_66 rfl rfl (Eq.refl 67) ?_
        refine Tr.aload_n (i := 0) dX5_tellRule_67 rfl rfl (Eq.refl 68) ?_
        refine Tr.gsRL dX5_tellRule_68 nl_le (Eq.refl 71) ?_
        refine Tr.iload_n (i := 1) dX5_tellRule_71 rfl rfl (Eq.refl 72) ?_
        refine Tr.tldL dX5_tellRule_72 hc (Eq.refl 73) ?_
        refine Tr.gsRM dX5_tellRule_73 nl_mo (Eq.refl 76) ?_
        refine Tr.iload_n (i := 1) dX5_tellRule_76 rfl rfl (Eq.refl 77) ?_
        refine Tr.tldM dX5_tellRule_77 hc (Eq.refl 78) ?_
        refine Tr.callVs (hRN) dX5_tellRule_78 (kX5_98 (Nat.le_of_ble_eq_true rfl)) iX5_readNumber rfl rfl rfl rfl rfl (tl_len) rfl rfl (Eq.refl 81) ?_
        generalize rdN T (ruL c) (ruM c) (nxP T len p, V, (X.1, X.2.1 ||| (nI 1 <<< (nI c &&& 31)), X.2.2), f, pl) = R at *
        refine Tr.iastN dX5_tellRule_81 rfl (by omega) (by decide) (Eq.refl 82) ?_
        refine Tr.ret dX5_tellRule_82 rfl rfl ?_
        · rfl
      · rw [if_pos (show bt X.2.1 c = true from decide_eq_true h28)]
        refine Tr.aload_n (i := 0) dX5_tellRule_31 rfl rfl (Eq.refl 32) ?_
        refine Tr.iconst (v := nI 3) dX5_tellRule_32 (icN 3) (Eq.refl 33) ?_
        refine Tr.callVs (l_blame E ad len T p V X f pl 3) dX5_tellRule_33 (kX5_73 (Nat.le_of_ble_eq_true rfl)) iX5_blame rfl rfl rfl rfl rfl (tl_len) rfl rfl (Eq.refl 36) ?_
        refine Tr.ret dX5_tellRule_36 rfl rfl ?_
        · rfl
    · exact absurd h7 (nI_nm1 (by omega))
  · rw [if_neg hc]
    rw [show rcI c = -1 from if_neg hc] at hRR
    refine Md.of 1 (by decide) rfl rfl ?_
    refine Tr.aload_n (i := 0) dX5_tellRule_0 rfl rfl (Eq.refl 1) ?_
    refine Tr.callVs (hRR) dX5_tellRule_1 (kX5_156 (Nat.le_of_ble_eq_true rfl)) iX5_ruleRead rfl rfl rfl rfl rfl (tl_len) rfl rfl (Eq.refl 4) ?_
    refine Tr.istore_n (i := 1) dX5_tellRule_4 rfl rfl rfl (Eq.refl 5) ?_
    refine Tr.iload_n (i := 1) dX5_tellRule_5 rfl rfl (Eq.refl 6) ?_
    refine Tr.iconst (v := (-1)) dX5_tellRule_6 (by decide +kernel) (Eq.refl 7) ?_
    refine Tr.icmp_ne (tgt := 16) dX5_tellRule_7 (by decide) (Eq.refl 10) (fun h7 => ?_) (fun h7 => ?_)
    · exact absurd rfl h7
    · refine Tr.aload_n (i := 0) dX5_tellRule_10 rfl rfl (Eq.refl 11) ?_
      refine Tr.iconst (v := nI 1) dX5_tellRule_11 (icN 1) (Eq.refl 12) ?_
      refine Tr.callVs (l_blame E ad len T p V X f pl 1) dX5_tellRule_12 (kX5_73 (Nat.le_of_ble_eq_true rfl)) iX5_blame rfl rfl rfl rfl rfl (tl_len) rfl rfl (Eq.refl 15) ?_
      refine Tr.ret dX5_tellRule_15 rfl rfl ?_
      · rfl
