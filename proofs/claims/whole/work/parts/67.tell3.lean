/-! Teller: ties, homes, persons, houses -/
theorem adv_l {T : Nat → Nat} {len : Nat} (z : Tlt len) : adv T z = (nxP T len z.1, z.2) := rfl
/-- q's tie is told again -/
def tgB (T : Nat → Nat) {len : Nat} (z : Tlt len) (r : Nat) : Bool := decide (tkK T len z.1.1 = 1) && (decide (fnd z.2.2.1.2.2.2.2.2.2 (lN (tkM T len z.1.1)) (npV z.2.1) 0 < 5) && (decide (fnd z.2.2.1.2.2.2.2.2.2 (lN (tkM T len z.1.1)) (npV z.2.1) 0 = r) || bt z.2.2.1.2.2.1 (r * 5 + fnd z.2.2.1.2.2.2.2.2.2 (lN (tkM T len z.1.1)) (npV z.2.1) 0)))
theorem tlCP_le {E E2 : EnvT} {ad ad2 : Nat → Nat} {len len2 : Nat} {T T2 : Nat → Nat} {z : Tlt len} {p2 : Nat} {V2 : Vil} {X2 : Vix} {f2 : Nat} {pl2 : Int32} : (tlC E2 ad2 len2 T2 p2 V2 X2 f2 pl2).length ≤ (tlP E ad len T z).length := Nat.le_refl 14
theorem rdP_z (T : Nat → Nat) {len : Nat} (z : Tlt len) (h : (rdP T z).2.2.2.2.1 = 0) : z.2.2.2.1 = 0 := by
  by_cases h0 : z.2.2.2.1 = 0
  · exact h0
  · have : rdP T z = (5, z) := if_neg h0
    rw [this] at h
    exact h
set_option maxHeartbeats 4000000 in
set_option maxRecDepth 100000 in
theorem l_isTiedAgain (E : EnvT) (ad : Nat → Nat) (len : Nat) (T : Nat → Nat) (z : Tlt len) (r : Nat) (hI : nhV z.2.1 ≤ 5 ∧ npV z.2.1 ≤ 5) (hr : r < 5) : Md E mX5_isTiedAgain ad [.ref (ad 0), .int (nI r)] (tlP E ad len T z) (some (.int (bI (tgB T z r)))) (tlP E ad len T z) := by
  obtain ⟨p, V, X, f, pl⟩ := z
  have hn : npV V ≤ 5 := hI.2
  have hk := tkK_lt T len p.1
  have hx : tgB T (p, V, X, f, pl) r = (decide (tkK T len p.1 = 1) && (decide (fnd X.2.2.2.2.2.2 (lN (tkM T len p.1)) (npV V) 0 < 5) && (decide (fnd X.2.2.2.2.2.2 (lN (tkM T len p.1)) (npV V) 0 = r) || bt X.2.2.1 (r * 5 + fnd X.2.2.2.2.2.2 (lN (tkM T len p.1)) (npV V) 0)))) := rfl
  rw [hx]
  clear hx
  have hfl := fnd_lt X.2.2.2.2.2.2 (lN (tkM T len p.1)) (npV V) 0 (by omega)
  have hPN := v_personNamed E (adc ad [3, 4, 5, 6, 7, 8, 9, 10, 11, 12, 13] 14) V X (lN (tkM T len p.1)) hn
  generalize fnd X.2.2.2.2.2.2 (lN (tkM T len p.1)) (npV V) 0 = c at *
  show Md E _ ad _ (tlC E ad len T p.1 V X f pl) _ (tlC E ad len T p.1 V X f pl)
  refine Md.of 1 (by decide) rfl rfl ?_
  refine Tr.aload_n (i := 0) dX5_isTiedAgain_0 rfl rfl (Eq.refl 1) ?_
  refine Tr.getf dX5_isTiedAgain_1 fX5_12 rfl rfl (Eq.refl 4) ?_
  refine Tr.aload_n (i := 0) dX5_isTiedAgain_4 rfl rfl (Eq.refl 5) ?_
  refine Tr.getf dX5_isTiedAgain_5 fX5_22 rfl rfl (Eq.refl 8) ?_
  refine Tr.getf dX5_isTiedAgain_8 fX5_119 rfl rfl (Eq.refl 11) ?_
  refine Tr.callVr (L := [3, 4, 5, 6, 7, 8, 9, 10, 11, 12, 13]) (hPN) dX5_isTiedAgain_11 (kX5_147 (Nat.le_of_ble_eq_true rfl)) iX7_personNamed rfl rfl rfl rfl rfl rfl rfl rfl rfl (Eq.refl 14) ?_
  refine Tr.istore_n (i := 2) dX5_isTiedAgain_14 rfl rfl rfl (Eq.refl 15) ?_
  refine Tr.aload_n (i := 0) dX5_isTiedAgain_15 rfl rfl (Eq.refl 16) ?_
  refine Tr.getf dX5_isTiedAgain_16 fX5_22 rfl rfl (Eq.refl 19) ?_
  refine Tr.getf dX5_isTiedAgain_19 fX5_37 rfl rfl (Eq.refl 22) ?_
  refine Tr.iconst (v := nI 1) dX5_isTiedAgain_22 (icN 1) (Eq.refl 23) ?_
  refine Tr.icmp_neN (tgt := 31) dX5_isTiedAgain_23 (by decide) (Eq.refl 26) (by omega) (by omega) (fun h23 => ?_) (fun h23 => ?_)
  · rw [decide_eq_false h23, Bool.false_and]
    refine Tr.iconst (v := nI 0) dX5_isTiedAgain_31 (icN 0) (Eq.refl 32) ?_
    refine Tr.iret dX5_isTiedAgain_32 rfl (by first | rfl | exact bI_nar _) ?_ ?_
    · rfl
    · rfl
  · rw [decide_eq_true h23, Bool.true_and]
    refine Tr.iload_n (i := 2) dX5_isTiedAgain_26 rfl rfl (Eq.refl 27) ?_
    refine Tr.iconst (v := (-1)) dX5_isTiedAgain_27 (by decide +kernel) (Eq.refl 28) ?_
    refine Tr.icmp_ne (tgt := 33) dX5_isTiedAgain_28 (by decide) (Eq.refl 31) (fun h28 => ?_) (fun h28 => ?_)
    · rw [cl_none] at h28
      have h28 : c < 5 := by omega
      rw [decide_eq_true h28, Bool.true_and]
      rw [cl_lt h28]
      refine Tr.iload_n (i := 2) dX5_isTiedAgain_33 rfl rfl (Eq.refl 34) ?_
      refine Tr.iload_n (i := 1) dX5_isTiedAgain_34 rfl rfl (Eq.refl 35) ?_
      refine Tr.icmp_eqN (tgt := 57) dX5_isTiedAgain_35 (by decide) (Eq.refl 38) (by omega) (by omega) (fun h35 => ?_) (fun h35 => ?_)
      · rw [decide_eq_true h35, Bool.true_or]
        refine Tr.iconst (v := nI 1) dX5_isTiedAgain_57 (icN 1) (Eq.refl 58) ?_
        refine Tr.goto (pc' := 62) dX5_isTiedAgain_58 (by decide) ?_
        refine Tr.iret dX5_isTiedAgain_62 rfl (by first | rfl | exact bI_nar _) ?_ ?_
        · rfl
        · rfl
      · rw [decide_eq_false h35, Bool.false_or]
        refine Tr.aload_n (i := 0) dX5_isTiedAgain_38 rfl rfl (Eq.refl 39) ?_
        refine Tr.getf dX5_isTiedAgain_39 fX5_12 rfl rfl (Eq.refl 42) ?_
        refine Tr.getf dX5_isTiedAgain_42 fX5_144 rfl rfl (Eq.refl 45) ?_
        refine Tr.iload_n (i := 1) dX5_isTiedAgain_45 rfl rfl (Eq.refl 46) ?_
        refine Tr.iconst (v := nI 5) dX5_isTiedAgain_46 (icN 5) (Eq.refl 47) ?_
        refine Tr.imulN dX5_isTiedAgain_47 (Eq.refl 48) ?_
        refine Tr.iload_n (i := 2) dX5_isTiedAgain_48 rfl rfl (Eq.refl 49) ?_
        refine Tr.iaddN dX5_isTiedAgain_49 (Eq.refl 50) ?_
        refine Tr.ishr dX5_isTiedAgain_50 (Eq.refl 51) ?_
        refine Tr.iconst (v := nI 1) dX5_isTiedAgain_51 (icN 1) (Eq.refl 52) ?_
        refine Tr.iand dX5_isTiedAgain_52 (Eq.refl 53) ?_
        refine Tr.iconst (v := nI 1) dX5_isTiedAgain_53 (icN 1) (Eq.refl 54) ?_
        refine Tr.icmp_ne (tgt := 61) dX5_isTiedAgain_54 (by decide) (Eq.refl 57) (fun h54 => ?_) (fun h54 => ?_)
        · rw [show bt X.2.2.1 (r * 5 + c) = false from decide_eq_false h54]
          refine Tr.iconst (v := nI 0) dX5_isTiedAgain_61 (icN 0) (Eq.refl 62) ?_
          refine Tr.iret dX5_isTiedAgain_62 rfl (by first | rfl | exact bI_nar _) ?_ ?_
          · rfl
          · rfl
        · rw [show bt X.2.2.1 (r * 5 + c) = true from decide_eq_true h54]
          refine Tr.iconst (v := nI 1) dX5_isTiedAgain_57 (icN 1) (Eq.refl 58) ?_
          refine Tr.goto (pc' := 62) dX5_isTiedAgain_58 (by decide) ?_
          refine Tr.iret dX5_isTiedAgain_62 rfl (by first | rfl | exact bI_nar _) ?_ ?_
          · rfl
          · rfl
    · rw [cl_none] at h28
      rw [decide_eq_false h28, Bool.false_and]
      refine Tr.iconst (v := nI 0) dX5_isTiedAgain_31 (icN 0) (Eq.refl 32) ?_
      refine Tr.iret dX5_isTiedAgain_32 rfl (by first | rfl | exact bI_nar _) ?_ ?_
      · rfl
      · rfl
/-- a tie: the first person; blamed if told again; the second; the number -/
def tlT1 (T : Nat → Nat) {len : Nat} (z : Tlt len) : Tlt len := if (rdP T (adv T z)).2.2.2.2.1 = 0 then (if tgB T (rdP T (adv T z)).2 (rdP T (adv T z)).1 then blm T (rdP T (adv T z)).2 3 else (rdP T (adv T z)).2) else (rdP T (adv T z)).2
def tlT2 (T : Nat → Nat) {len : Nat} (r : Nat) (z : Tlt len) : Tlt len :=
  if (rdN T (nI 0) (nI 20) (rdP T z).2).2.2.2.2.1 = 0 then ((rdN T (nI 0) (nI 20) (rdP T z).2).2.1, vTi (rdN T (nI 0) (nI 20) (rdP T z).2).2.2.1 (upd (tiV (rdN T (nI 0) (nI 20) (rdP T z).2).2.2.1) (r * 5 + (rdP T z).1) (nI (rdN T (nI 0) (nI 20) (rdP T z).2).1 - nI 10)), ((rdN T (nI 0) (nI 20) (rdP T z).2).2.2.2.1.1, (rdN T (nI 0) (nI 20) (rdP T z).2).2.2.2.1.2.1, (rdN T (nI 0) (nI 20) (rdP T z).2).2.2.2.1.2.2.1 ||| (nI 1 <<< (nI (r * 5 + (rdP T z).1) &&& 31)), (rdN T (nI 0) (nI 20) (rdP T z).2).2.2.2.1.2.2.2), (rdN T (nI 0) (nI 20) (rdP T z).2).2.2.2.2) else (rdN T (nI 0) (nI 20) (rdP T z).2).2
def tlTi (T : Nat → Nat) {len : Nat} (z : Tlt len) : Tlt len := tlT2 T (rdP T (adv T z)).1 (tlT1 T z)
set_option maxHeartbeats 4000000 in
set_option maxRecDepth 100000 in
theorem l_tellTie (E : EnvT) (ad : Nat → Nat) (len : Nat) (T : Nat → Nat) (z : Tlt len) (hl : len ≤ 900) (hT : ∀ k, k < 900 → T k < 256) (hI : nhV z.2.1 ≤ 5 ∧ npV z.2.1 ≤ 5) (hf : z.2.2.2.1 < 6) : Md E mX5_tellTie ad [.ref (ad 0)] (tlP E ad len T z) none (tlP E ad len T (tlTi T z)) := by
  obtain ⟨p, V, X, f, pl⟩ := z
  have hf : f < 6 := hf
  have hI : nhV V ≤ 5 ∧ npV V ≤ 5 := hI
  have hP0 := l_readPerson E ad len T (nxP T len p, V, X, f, pl) hl hT hI hf
  obtain ⟨s1, s2, s3⟩ := rdP_s T (nxP T len p, V, X, f, pl)
  have s0 := rdP_0 T (nxP T len p, V, X, f, pl) hI.2
  have hx : tlTi T (p, V, X, f, pl) = tlT2 T (rdP T (nxP T len p, V, X, f, pl)).1 (if (rdP T (nxP T len p, V, X, f, pl)).2.2.2.2.1 = 0 then (if tgB T (rdP T (nxP T len p, V, X, f, pl)).2 (rdP T (nxP T len p, V, X, f, pl)).1 then blm T (rdP T (nxP T len p, V, X, f, pl)).2 3 else (rdP T (nxP T len p, V, X, f, pl)).2) else (rdP T (nxP T len p, V, X, f, pl)).2) := rfl
  rw [hx]
  clear hx
  have s4 := s3 hf
  generalize rdP T (nxP T len p, V, X, f, pl) = R0 at *
  obtain ⟨r, y⟩ := R0
  have hy1 : nhV y.2.1 ≤ 5 ∧ npV y.2.1 ≤ 5 := by rw [show y.2.1 = V from s1]; exact hI
  have hy2 : y.2.2.2.1 < 6 := s4
  have hr0 : y.2.2.2.1 = 0 → r < 5 := s0
  clear s0 s1 s2 s3 s4
  show Md E _ ad _ (tlC E ad len T p.1 V X f pl) _ (tlP E ad len T (tlT2 T r (if y.2.2.2.1 = 0 then (if tgB T y r then blm T y 3 else y) else y)))
  have hP0 : Md E _ ad _ (tlC E ad len T (nxP T len p).1 V X f pl) (some (.int (cl r))) (tlP E ad len T y) := hP0
  refine Md.of 3 (by decide) rfl rfl ?_
  refine Tr.aload_n (i := 0) dX5_tellTie_0 rfl rfl (Eq.refl 1) ?_
  refine Tr.getf dX5_tellTie_1 fX5_22 rfl rfl (Eq.refl 4) ?_
  refine Tr.callV (L := [1, 2]) (t_readToken E _ len (tkE T len p.1) (tkK T len p.1) (tkS T len p.1) (tkN T len p.1) (tkM T len p.1) T hl hT (tkE_le T (Nat.le_of_lt_succ p.2)).2) dX5_tellTie_4 (kX5_80 (Nat.le_of_ble_eq_true rfl)) iX4_readToken rfl rfl rfl rfl rfl rfl rfl rfl rfl rfl (Eq.refl 7) ?_
  refine Tr.pic (w' := tlC E ad len T (nxP T len p).1 V X f pl) (putB_eq (Lc := [0, 3, 4, 5, 6, 7, 8, 9, 10, 11, 12, 13]) 14 rfl rfl rfl rfl ⟨⟨_, rfl, rfl⟩, ⟨_, rfl, rfl⟩, ⟨_, rfl, rfl⟩, ⟨_, rfl, rfl⟩, ⟨_, rfl, rfl⟩, ⟨_, rfl, rfl⟩, ⟨_, rfl, rfl⟩, ⟨_, rfl, rfl⟩, ⟨_, rfl, rfl⟩, ⟨_, rfl, rfl⟩, ⟨_, rfl, rfl⟩, ⟨_, rfl, rfl⟩, trivial⟩ (by decide) rfl) ?_
  refine Tr.aload_n (i := 0) dX5_tellTie_7 rfl rfl (Eq.refl 8) ?_
  refine Tr.callVs (hP0) dX5_tellTie_8 (kX5_133 (Nat.le_of_ble_eq_true rfl)) iX5_readPerson rfl rfl rfl rfl rfl (tlCP_le) rfl rfl (Eq.refl 11) ?_
  refine Tr.istore_n (i := 1) dX5_tellTie_11 rfl rfl rfl (Eq.refl 12) ?_
  refine Tr.aload_n (i := 0) dX5_tellTie_12 rfl rfl (Eq.refl 13) ?_
  refine Tr.getf dX5_tellTie_13 fX5_26 rfl rfl (Eq.refl 16) ?_
  refine Tr.if_ne (tgt := 32) dX5_tellTie_16 (by decide) (Eq.refl 19) (fun h16 => ?_) (fun h16 => ?_)
  · rw [if_neg (fun z9 => h16 (show nI y.2.2.2.1 = 0 by rw [show y.2.2.2.1 = 0 from z9]; rfl))]
    obtain ⟨z2, hz2⟩ : ∃ z2 : Tlt len, z2 = y := ⟨_, rfl⟩
    have hI2 : nhV z2.2.1 ≤ 5 ∧ npV z2.2.1 ≤ 5 := by rw [hz2]; exact hy1
    have hf2 : z2.2.2.2.1 < 6 := by rw [hz2]; first | exact hy2 | exact (show (3 : Nat) < 6 from by decide)
    have hr2 : z2.2.2.2.1 = 0 → r < 5 := by rw [hz2]; first | exact hr0 | exact fun h => absurd h (show ¬ (3 : Nat) = 0 from by decide)
    refine Tr.pic (w' := tlP E ad len T z2) (by rw [hz2]; first | done | rfl) ?_
    rw [← hz2]
    clear hz2
    have hP := l_readPerson E ad len T z2 hl hT hI2 hf2
    obtain ⟨s1, s2, s3⟩ := rdP_s T z2
    have s0 := rdP_0 T z2 hI2.2
    have hN := l_readNumber E ad len T (nI 0) (nI 20) (rdP T z2).2 hl hT (s3 hf2)
    obtain ⟨u1, u2, u3, u4⟩ := rdN_s T (nI 0) (nI 20) (rdP T z2).2
    have hz0 := rdP_z T z2
    have hW : tlT2 T r z2 = if (rdN T (nI 0) (nI 20) (rdP T z2).2).2.2.2.2.1 = 0 then ((rdN T (nI 0) (nI 20) (rdP T z2).2).2.1, vTi (rdN T (nI 0) (nI 20) (rdP T z2).2).2.2.1 (upd (tiV (rdN T (nI 0) (nI 20) (rdP T z2).2).2.2.1) (r * 5 + (rdP T z2).1) (nI (rdN T (nI 0) (nI 20) (rdP T z2).2).1 - nI 10)), ((rdN T (nI 0) (nI 20) (rdP T z2).2).2.2.2.1.1, (rdN T (nI 0) (nI 20) (rdP T z2).2).2.2.2.1.2.1, (rdN T (nI 0) (nI 20) (rdP T z2).2).2.2.2.1.2.2.1 ||| (nI 1 <<< (nI (r * 5 + (rdP T z2).1) &&& 31)), (rdN T (nI 0) (nI 20) (rdP T z2).2).2.2.2.1.2.2.2), (rdN T (nI 0) (nI 20) (rdP T z2).2).2.2.2.2) else (rdN T (nI 0) (nI 20) (rdP T z2).2).2 := rfl
    rw [hW]
    clear hW
    have u5 := u3 (s3 hf2)
    have s5 := fun h => s0 (u4 h)
    have s6 := fun h => hr2 (hz0 (u4 h))
    clear s0 s1 s2 s3 u1 u2 u3 u4 hz0
    generalize rdN T (nI 0) (nI 20) (rdP T z2).2 = N at *
    generalize rdP T z2 = R at *
    obtain ⟨n, pN, VN, XN, fN, plN⟩ := N
    have hN : Md E _ ad _ _ _ (tlC E ad len T pN.1 VN XN fN plN) := hN
    have u6 : fN < 6 := u5
    refine Tr.aload_n (i := 0) dX5_tellTie_32 rfl rfl (Eq.refl 33) ?_
    refine Tr.callVs (hP) dX5_tellTie_33 (kX5_133 (Nat.le_of_ble_eq_true rfl)) iX5_readPerson rfl rfl rfl rfl rfl (tlP_le) rfl rfl (Eq.refl 36) ?_
    refine Tr.istore_n (i := 2) dX5_tellTie_36 rfl rfl rfl (Eq.refl 37) ?_
    refine Tr.aload_n (i := 0) dX5_tellTie_37 rfl rfl (Eq.refl 38) ?_
    refine Tr.iconst (v := nI 0) dX5_tellTie_38 (icN 0) (Eq.refl 39) ?_
    refine Tr.bipush (v := nI 20) dX5_tellTie_39 (by decide +kernel) (Eq.refl 41) ?_
    refine Tr.callVs (hN) dX5_tellTie_41 (kX5_98 (Nat.le_of_ble_eq_true rfl)) iX5_readNumber rfl rfl rfl rfl rfl (tlPC_le) rfl rfl (Eq.refl 44) ?_
    refine Tr.pic (w' := (tlC E ad len T pN.1 VN XN fN plN)) rfl ?_
    refine Tr.bipush (v := nI 10) dX5_tellTie_44 (by decide +kernel) (Eq.refl 46) ?_
    refine Tr.isub dX5_tellTie_46 (Eq.refl 47) ?_
    refine Tr.istore_n (i := 3) dX5_tellTie_47 rfl rfl rfl (Eq.refl 48) ?_
    refine Tr.aload_n (i := 0) dX5_tellTie_48 rfl rfl (Eq.refl 49) ?_
    refine Tr.getf dX5_tellTie_49 fX5_26 rfl rfl (Eq.refl 52) ?_
    refine Tr.if_ne (tgt := 88) dX5_tellTie_52 (by decide) (Eq.refl 55) (fun h52 => ?_) (fun h52 => ?_)
    · rw [if_neg (fun z9 => h52 (show nI fN = 0 by rw [show fN = 0 from z9]; rfl))]
      refine Tr.ret dX5_tellTie_88 rfl rfl ?_
      · rfl
    · have h52 : fN = 0 := (nI_eq_iff (b := 0) (by omega) (by decide)).mp h52
      have hr := s5 h52
      have hr1 := s6 h52
      rw [if_pos h52]
      rw [cl_lt hr, cl_lt hr1]
      refine Tr.aload_n (i := 0) dX5_tellTie_55 rfl rfl (Eq.refl 56) ?_
      refine Tr.getf dX5_tellTie_56 fX5_12 rfl rfl (Eq.refl 59) ?_
      refine Tr.getf dX5_tellTie_59 fX5_141 rfl rfl (Eq.refl 62) ?_
      refine Tr.iload_n (i := 1) dX5_tellTie_62 rfl rfl (Eq.refl 63) ?_
      refine Tr.iconst (v := nI 5) dX5_tellTie_63 (icN 5) (Eq.refl 64) ?_
      refine Tr.imulN dX5_tellTie_64 (Eq.refl 65) ?_
      refine Tr.iload_n (i := 2) dX5_tellTie_65 rfl rfl (Eq.refl 66) ?_
      refine Tr.iaddN dX5_tellTie_66 (Eq.refl 67) ?_
      refine Tr.iload_n (i := 3) dX5_tellTie_67 rfl rfl (Eq.refl 68) ?_
      refine Tr.iastN dX5_tellTie_68 rfl (by omega) (by decide) (Eq.refl 69) ?_
      refine Tr.aload_n (i := 0) dX5_tellTie_69 rfl rfl (Eq.refl 70) ?_
      refine Tr.getf dX5_tellTie_70 fX5_12 rfl rfl (Eq.refl 73) ?_
      refine Tr.dup dX5_tellTie_73 rfl (Eq.refl 74) ?_
      refine Tr.getf dX5_tellTie_74 fX5_144 rfl rfl (Eq.refl 77) ?_
      refine Tr.iconst (v := nI 1) dX5_tellTie_77 (icN 1) (Eq.refl 78) ?_
      refine Tr.iload_n (i := 1) dX5_tellTie_78 rfl rfl (Eq.refl 79) ?_
      refine Tr.iconst (v := nI 5) dX5_tellTie_79 (icN 5) (Eq.refl 80) ?_
      refine Tr.imulN dX5_tellTie_80 (Eq.refl 81) ?_
      refine Tr.iload_n (i := 2) dX5_tellTie_81 rfl rfl (Eq.refl 82) ?_
      refine Tr.iaddN dX5_tellTie_82 (Eq.refl 83) ?_
      refine Tr.ishl dX5_tellTie_83 (Eq.refl 84) ?_
      refine Tr.ior dX5_tellTie_84 (Eq.refl 85) ?_
      refine Tr.putf dX5_tellTie_85 pX5_144 rfl (rfl) (rfl) rfl (Eq.refl 88) ?_
      refine Tr.ret dX5_tellTie_88 rfl rfl ?_
      · rfl
  · have h16 : y.2.2.2.1 = 0 := (nI_eq_iff (b := 0) (by omega) (by decide)).mp h16
    have hr := hr0 h16
    rw [if_pos h16]
    rw [cl_lt hr]
    refine Tr.aload_n (i := 0) dX5_tellTie_19 rfl rfl (Eq.refl 20) ?_
    refine Tr.iload_n (i := 1) dX5_tellTie_20 rfl rfl (Eq.refl 21) ?_
    refine Tr.callVs (l_isTiedAgain E ad len T y r hy1 hr) dX5_tellTie_21 (kX5_137 (Nat.le_of_ble_eq_true rfl)) iX5_isTiedAgain rfl rfl rfl rfl rfl (tlP_le) rfl rfl (Eq.refl 24) ?_
    refine Tr.if_eqB (tgt := 32) dX5_tellTie_24 (by decide) (Eq.refl 27) (fun h24 => ?_) (fun h24 => ?_)
    · rw [if_neg (by rw [h24]; decide)]
      rw [← cl_lt hr]
      obtain ⟨z2, hz2⟩ : ∃ z2 : Tlt len, z2 = y := ⟨_, rfl⟩
      have hI2 : nhV z2.2.1 ≤ 5 ∧ npV z2.2.1 ≤ 5 := by rw [hz2]; exact hy1
      have hf2 : z2.2.2.2.1 < 6 := by rw [hz2]; first | exact hy2 | exact (show (3 : Nat) < 6 from by decide)
      have hr2 : z2.2.2.2.1 = 0 → r < 5 := by rw [hz2]; first | exact hr0 | exact fun h => absurd h (show ¬ (3 : Nat) = 0 from by decide)
      refine Tr.pic (w' := tlP E ad len T z2) (by rw [hz2]; first | done | rfl) ?_
      rw [← hz2]
      clear hz2
      have hP := l_readPerson E ad len T z2 hl hT hI2 hf2
      obtain ⟨s1, s2, s3⟩ := rdP_s T z2
      have s0 := rdP_0 T z2 hI2.2
      have hN := l_readNumber E ad len T (nI 0) (nI 20) (rdP T z2).2 hl hT (s3 hf2)
      obtain ⟨u1, u2, u3, u4⟩ := rdN_s T (nI 0) (nI 20) (rdP T z2).2
      have hz0 := rdP_z T z2
      have hW : tlT2 T r z2 = if (rdN T (nI 0) (nI 20) (rdP T z2).2).2.2.2.2.1 = 0 then ((rdN T (nI 0) (nI 20) (rdP T z2).2).2.1, vTi (rdN T (nI 0) (nI 20) (rdP T z2).2).2.2.1 (upd (tiV (rdN T (nI 0) (nI 20) (rdP T z2).2).2.2.1) (r * 5 + (rdP T z2).1) (nI (rdN T (nI 0) (nI 20) (rdP T z2).2).1 - nI 10)), ((rdN T (nI 0) (nI 20) (rdP T z2).2).2.2.2.1.1, (rdN T (nI 0) (nI 20) (rdP T z2).2).2.2.2.1.2.1, (rdN T (nI 0) (nI 20) (rdP T z2).2).2.2.2.1.2.2.1 ||| (nI 1 <<< (nI (r * 5 + (rdP T z2).1) &&& 31)), (rdN T (nI 0) (nI 20) (rdP T z2).2).2.2.2.1.2.2.2), (rdN T (nI 0) (nI 20) (rdP T z2).2).2.2.2.2) else (rdN T (nI 0) (nI 20) (rdP T z2).2).2 := rfl
      rw [hW]
      clear hW
      have u5 := u3 (s3 hf2)
      have s5 := fun h => s0 (u4 h)
      have s6 := fun h => hr2 (hz0 (u4 h))
      clear s0 s1 s2 s3 u1 u2 u3 u4 hz0
      generalize rdN T (nI 0) (nI 20) (rdP T z2).2 = N at *
      generalize rdP T z2 = R at *
      obtain ⟨n, pN, VN, XN, fN, plN⟩ := N
      have hN : Md E _ ad _ _ _ (tlC E ad len T pN.1 VN XN fN plN) := hN
      have u6 : fN < 6 := u5
      refine Tr.aload_n (i := 0) dX5_tellTie_32 rfl rfl (Eq.refl 33) ?_
      refine Tr.callVs (hP) dX5_tellTie_33 (kX5_133 (Nat.le_of_ble_eq_true rfl)) iX5_readPerson rfl rfl rfl rfl rfl (tlP_le) rfl rfl (Eq.refl 36) ?_
      refine Tr.istore_n (i := 2) dX5_tellTie_36 rfl rfl rfl (Eq.refl 37) ?_
      refine Tr.aload_n (i := 0) dX5_tellTie_37 rfl rfl (Eq.refl 38) ?_
      refine Tr.iconst (v := nI 0) dX5_tellTie_38 (icN 0) (Eq.refl 39) ?_
      refine Tr.bipush (v := nI 20) dX5_tellTie_39 (by decide +kernel) (Eq.refl 41) ?_
      refine Tr.callVs (hN) dX5_tellTie_41 (kX5_98 (Nat.le_of_ble_eq_true rfl)) iX5_readNumber rfl rfl rfl rfl rfl (tlPC_le) rfl rfl (Eq.refl 44) ?_
      refine Tr.pic (w' := (tlC E ad len T pN.1 VN XN fN plN)) rfl ?_
      refine Tr.bipush (v := nI 10) dX5_tellTie_44 (by decide +kernel) (Eq.refl 46) ?_
      refine Tr.isub dX5_tellTie_46 (Eq.refl 47) ?_
      refine Tr.istore_n (i := 3) dX5_tellTie_47 rfl rfl rfl (Eq.refl 48) ?_
      refine Tr.aload_n (i := 0) dX5_tellTie_48 rfl rfl (Eq.refl 49) ?_
      refine Tr.getf dX5_tellTie_49 fX5_26 rfl rfl (Eq.refl 52) ?_
      refine Tr.if_ne (tgt := 88) dX5_tellTie_52 (by decide) (Eq.refl 55) (fun h52 => ?_) (fun h52 => ?_)
      · rw [if_neg (fun z9 => h52 (show nI fN = 0 by rw [show fN = 0 from z9]; rfl))]
        refine Tr.ret dX5_tellTie_88 rfl rfl ?_
        · rfl
      · have h52 : fN = 0 := (nI_eq_iff (b := 0) (by omega) (by decide)).mp h52
        have hr := s5 h52
        have hr1 := s6 h52
        rw [if_pos h52]
        rw [cl_lt hr, cl_lt hr1]
        refine Tr.aload_n (i := 0) dX5_tellTie_55 rfl rfl (Eq.refl 56) ?_
        refine Tr.getf dX5_tellTie_56 fX5_12 rfl rfl (Eq.refl 59) ?_
        refine Tr.getf dX5_tellTie_59 fX5_141 rfl rfl (Eq.refl 62) ?_
        refine Tr.iload_n (i := 1) dX5_tellTie_62 rfl rfl (Eq.refl 63) ?_
        refine Tr.iconst (v := nI 5) dX5_tellTie_63 (icN 5) (Eq.refl 64) ?_
        refine Tr.imulN dX5_tellTie_64 (Eq.refl 65) ?_
        refine Tr.iload_n (i := 2) dX5_tellTie_65 rfl rfl (Eq.refl 66) ?_
        refine Tr.iaddN dX5_tellTie_66 (Eq.refl 67) ?_
        refine Tr.iload_n (i := 3) dX5_tellTie_67 rfl rfl (Eq.refl 68) ?_
        refine Tr.iastN dX5_tellTie_68 rfl (by omega) (by decide) (Eq.refl 69) ?_
        refine Tr.aload_n (i := 0) dX5_tellTie_69 rfl rfl (Eq.refl 70) ?_
        refine Tr.getf dX5_tellTie_70 fX5_12 rfl rfl (Eq.refl 73) ?_
        refine Tr.dup dX5_tellTie_73 rfl (Eq.refl 74) ?_
        refine Tr.getf dX5_tellTie_74 fX5_144 rfl rfl (Eq.refl 77) ?_
        refine Tr.iconst (v := nI 1) dX5_tellTie_77 (icN 1) (Eq.refl 78) ?_
        refine Tr.iload_n (i := 1) dX5_tellTie_78 rfl rfl (Eq.refl 79) ?_
        refine Tr.iconst (v := nI 5) dX5_tellTie_79 (icN 5) (Eq.refl 80) ?_
        refine Tr.imulN dX5_tellTie_80 (Eq.refl 81) ?_
        refine Tr.iload_n (i := 2) dX5_tellTie_81 rfl rfl (Eq.refl 82) ?_
        refine Tr.iaddN dX5_tellTie_82 (Eq.refl 83) ?_
        refine Tr.ishl dX5_tellTie_83 (Eq.refl 84) ?_
        refine Tr.ior dX5_tellTie_84 (Eq.refl 85) ?_
        refine Tr.putf dX5_tellTie_85 pX5_144 rfl (rfl) (rfl) rfl (Eq.refl 88) ?_
        refine Tr.ret dX5_tellTie_88 rfl rfl ?_
        · rfl
    · rw [if_pos h24]
      rw [← cl_lt hr]
      refine Tr.aload_n (i := 0) dX5_tellTie_27 rfl rfl (Eq.refl 28) ?_
      refine Tr.iconst (v := nI 3) dX5_tellTie_28 (icN 3) (Eq.refl 29) ?_
      refine Tr.callVs ((show Md E _ ad _ (tlP E ad len T y) none (tlP E ad len T (blm T y 3)) from l_blame E ad len T y.1 y.2.1 y.2.2.1 y.2.2.2.1 y.2.2.2.2 3)) dX5_tellTie_29 (kX5_73 (Nat.le_of_ble_eq_true rfl)) iX5_blame rfl rfl rfl rfl rfl (tlP_le) rfl rfl (Eq.refl 32) ?_
      obtain ⟨z2, hz2⟩ : ∃ z2 : Tlt len, z2 = blm T y 3 := ⟨_, rfl⟩
      have hI2 : nhV z2.2.1 ≤ 5 ∧ npV z2.2.1 ≤ 5 := by rw [hz2]; exact hy1
      have hf2 : z2.2.2.2.1 < 6 := by rw [hz2]; first | exact hy2 | exact (show (3 : Nat) < 6 from by decide)
      have hr2 : z2.2.2.2.1 = 0 → r < 5 := by rw [hz2]; first | exact hr0 | exact fun h => absurd h (show ¬ (3 : Nat) = 0 from by decide)
      refine Tr.pic (w' := tlP E ad len T z2) (by rw [hz2]; first | done | rfl) ?_
      rw [← hz2]
      clear hz2
      have hP := l_readPerson E ad len T z2 hl hT hI2 hf2
      obtain ⟨s1, s2, s3⟩ := rdP_s T z2
      have s0 := rdP_0 T z2 hI2.2
      have hN := l_readNumber E ad len T (nI 0) (nI 20) (rdP T z2).2 hl hT (s3 hf2)
      obtain ⟨u1, u2, u3, u4⟩ := rdN_s T (nI 0) (nI 20) (rdP T z2).2
      have hz0 := rdP_z T z2
      have hW : tlT2 T r z2 = if (rdN T (nI 0) (nI 20) (rdP T z2).2).2.2.2.2.1 = 0 then ((rdN T (nI 0) (nI 20) (rdP T z2).2).2.1, vTi (rdN T (nI 0) (nI 20) (rdP T z2).2).2.2.1 (upd (tiV (rdN T (nI 0) (nI 20) (rdP T z2).2).2.2.1) (r * 5 + (rdP T z2).1) (nI (rdN T (nI 0) (nI 20) (rdP T z2).2).1 - nI 10)), ((rdN T (nI 0) (nI 20) (rdP T z2).2).2.2.2.1.1, (rdN T (nI 0) (nI 20) (rdP T z2).2).2.2.2.1.2.1, (rdN T (nI 0) (nI 20) (rdP T z2).2).2.2.2.1.2.2.1 ||| (nI 1 <<< (nI (r * 5 + (rdP T z2).1) &&& 31)), (rdN T (nI 0) (nI 20) (rdP T z2).2).2.2.2.1.2.2.2), (rdN T (nI 0) (nI 20) (rdP T z2).2).2.2.2.2) else (rdN T (nI 0) (nI 20) (rdP T z2).2).2 := rfl
      rw [hW]
      clear hW
      have u5 := u3 (s3 hf2)
      have s5 := fun h => s0 (u4 h)
      have s6 := fun h => hr2 (hz0 (u4 h))
      clear s0 s1 s2 s3 u1 u2 u3 u4 hz0
      generalize rdN T (nI 0) (nI 20) (rdP T z2).2 = N at *
      generalize rdP T z2 = R at *
      obtain ⟨n, pN, VN, XN, fN, plN⟩ := N
      have hN : Md E _ ad _ _ _ (tlC E ad len T pN.1 VN XN fN plN) := hN
      have u6 : fN < 6 := u5
      refine Tr.aload_n (i := 0) dX5_tellTie_32 rfl rfl (Eq.refl 33) ?_
      refine Tr.callVs (hP) dX5_tellTie_33 (kX5_133 (Nat.le_of_ble_eq_true rfl)) iX5_readPerson rfl rfl rfl rfl rfl (tlP_le) rfl rfl (Eq.refl 36) ?_
      refine Tr.istore_n (i := 2) dX5_tellTie_36 rfl rfl rfl (Eq.refl 37) ?_
      refine Tr.aload_n (i := 0) dX5_tellTie_37 rfl rfl (Eq.refl 38) ?_
      refine Tr.iconst (v := nI 0) dX5_tellTie_38 (icN 0) (Eq.refl 39) ?_
      refine Tr.bipush (v := nI 20) dX5_tellTie_39 (by decide +kernel) (Eq.refl 41) ?_
      refine Tr.callVs (hN) dX5_tellTie_41 (kX5_98 (Nat.le_of_ble_eq_true rfl)) iX5_readNumber rfl rfl rfl rfl rfl (tlPC_le) rfl rfl (Eq.refl 44) ?_
      refine Tr.pic (w' := (tlC E ad len T pN.1 VN XN fN plN)) rfl ?_
      refine Tr.bipush (v := nI 10) dX5_tellTie_44 (by decide +kernel) (Eq.refl 46) ?_
      refine Tr.isub dX5_tellTie_46 (Eq.refl 47) ?_
      refine Tr.istore_n (i := 3) dX5_tellTie_47 rfl rfl rfl (Eq.refl 48) ?_
      refine Tr.aload_n (i := 0) dX5_tellTie_48 rfl rfl (Eq.refl 49) ?_
      refine Tr.getf dX5_tellTie_49 fX5_26 rfl rfl (Eq.refl 52) ?_
      refine Tr.if_ne (tgt := 88) dX5_tellTie_52 (by decide) (Eq.refl 55) (fun h52 => ?_) (fun h52 => ?_)
      · rw [if_neg (fun z9 => h52 (show nI fN = 0 by rw [show fN = 0 from z9]; rfl))]
        refine Tr.ret dX5_tellTie_88 rfl rfl ?_
        · rfl
      · have h52 : fN = 0 := (nI_eq_iff (b := 0) (by omega) (by decide)).mp h52
        have hr := s5 h52
        have hr1 := s6 h52
        rw [if_pos h52]
        rw [cl_lt hr, cl_lt hr1]
        refine Tr.aload_n (i := 0) dX5_tellTie_55 rfl rfl (Eq.refl 56) ?_
        refine Tr.getf dX5_tellTie_56 fX5_12 rfl rfl (Eq.refl 59) ?_
        refine Tr.getf dX5_tellTie_59 fX5_141 rfl rfl (Eq.refl 62) ?_
        refine Tr.iload_n (i := 1) dX5_tellTie_62 rfl rfl (Eq.refl 63) ?_
        refine Tr.iconst (v := nI 5) dX5_tellTie_63 (icN 5) (Eq.refl 64) ?_
        refine Tr.imulN dX5_tellTie_64 (Eq.refl 65) ?_
        refine Tr.iload_n (i := 2) dX5_tellTie_65 rfl rfl (Eq.refl 66) ?_
        refine Tr.iaddN dX5_tellTie_66 (Eq.refl 67) ?_
        refine Tr.iload_n (i := 3) dX5_tellTie_67 rfl rfl (Eq.refl 68) ?_
        refine Tr.iastN dX5_tellTie_68 rfl (by omega) (by decide) (Eq.refl 69) ?_
        refine Tr.aload_n (i := 0) dX5_tellTie_69 rfl rfl (Eq.refl 70) ?_
        refine Tr.getf dX5_tellTie_70 fX5_12 rfl rfl (Eq.refl 73) ?_
        refine Tr.dup dX5_tellTie_73 rfl (Eq.refl 74) ?_
        refine Tr.getf dX5_tellTie_74 fX5_144 rfl rfl (Eq.refl 77) ?_
        refine Tr.iconst (v := nI 1) dX5_tellTie_77 (icN 1) (Eq.refl 78) ?_
        refine Tr.iload_n (i := 1) dX5_tellTie_78 rfl rfl (Eq.refl 79) ?_
        refine Tr.iconst (v := nI 5) dX5_tellTie_79 (icN 5) (Eq.refl 80) ?_
        refine Tr.imulN dX5_tellTie_80 (Eq.refl 81) ?_
        refine Tr.iload_n (i := 2) dX5_tellTie_81 rfl rfl (Eq.refl 82) ?_
        refine Tr.iaddN dX5_tellTie_82 (Eq.refl 83) ?_
        refine Tr.ishl dX5_tellTie_83 (Eq.refl 84) ?_
        refine Tr.ior dX5_tellTie_84 (Eq.refl 85) ?_
        refine Tr.putf dX5_tellTie_85 pX5_144 rfl (rfl) (rfl) rfl (Eq.refl 88) ?_
        refine Tr.ret dX5_tellTie_88 rfl rfl ?_
        · rfl
      skip
def vOw (V : Vil) (g g2 : Nat → Nat) : Vil := (nhV V, npV V, laV V, ruV V, woV V, g, g2, wkV V, tiV V)
/-- the house of one -/
def tlHo (T : Nat → Nat) {len : Nat} (q : Nat) (z : Tlt len) : Tlt len :=
  if tkK T len z.1.1 = 1 then (if fnd z.2.2.1.2.2.2.1 (lN (tkM T len z.1.1)) (nhV z.2.1) 0 < 5 then (if owV z.2.1 (fnd z.2.2.1.2.2.2.1 (lN (tkM T len z.1.1)) (nhV z.2.1) 0) < 5 then blm T z 3 else (nxP T len z.1, vOw z.2.1 (upN (owV z.2.1) (fnd z.2.2.1.2.2.2.1 (lN (tkM T len z.1.1)) (nhV z.2.1) 0) q) (upN (hoV z.2.1) q (fnd z.2.2.1.2.2.2.1 (lN (tkM T len z.1.1)) (nhV z.2.1) 0)), z.2.2)) else blm T z 5) else blm T z 1
set_option maxHeartbeats 4000000 in
set_option maxRecDepth 100000 in
theorem l_tellHome (E : EnvT) (ad : Nat → Nat) (len : Nat) (T : Nat → Nat) (q : Nat) (z : Tlt len) (hl : len ≤ 900) (hT : ∀ k, k < 900 → T k < 256) (hI : nhV z.2.1 ≤ 5 ∧ npV z.2.1 ≤ 5) (hf : z.2.2.2.1 < 6) (hq : q < 5) : Md E mX5_tellHome ad [.ref (ad 0), .int (nI q)] (tlP E ad len T z) none (tlP E ad len T (tlHo T q z)) := by
  obtain ⟨p, V, X, f, pl⟩ := z
  have hn : nhV V ≤ 5 := hI.1
  have hk := tkK_lt T len p.1
  have hx : tlHo T q (p, V, X, f, pl) = if tkK T len p.1 = 1 then (if fnd X.2.2.2.1 (lN (tkM T len p.1)) (nhV V) 0 < 5 then (if owV V (fnd X.2.2.2.1 (lN (tkM T len p.1)) (nhV V) 0) < 5 then (p, V, X, 3, nI (tkS T len p.1)) else (nxP T len p, vOw V (upN (owV V) (fnd X.2.2.2.1 (lN (tkM T len p.1)) (nhV V) 0) q) (upN (hoV V) q (fnd X.2.2.2.1 (lN (tkM T len p.1)) (nhV V) 0)), X, f, pl)) else (p, V, X, 5, nI (tkS T len p.1))) else (p, V, X, 1, nI (tkS T len p.1)) := rfl
  rw [hx]
  clear hx
  have hfl := fnd_lt X.2.2.2.1 (lN (tkM T len p.1)) (nhV V) 0 (by omega)
  have hHN := v_houseNamed E (adc ad [3, 4, 5, 6, 7, 8, 9, 10, 11, 12, 13] 14) V X (lN (tkM T len p.1)) hn
  generalize fnd X.2.2.2.1 (lN (tkM T len p.1)) (nhV V) 0 = c at *
  show Md E _ ad _ (tlC E ad len T p.1 V X f pl) _ _
  refine Md.of 1 (by decide) rfl rfl ?_
  refine Tr.aload_n (i := 0) dX5_tellHome_0 rfl rfl (Eq.refl 1) ?_
  refine Tr.getf dX5_tellHome_1 fX5_12 rfl rfl (Eq.refl 4) ?_
  refine Tr.aload_n (i := 0) dX5_tellHome_4 rfl rfl (Eq.refl 5) ?_
  refine Tr.getf dX5_tellHome_5 fX5_22 rfl rfl (Eq.refl 8) ?_
  refine Tr.getf dX5_tellHome_8 fX5_119 rfl rfl (Eq.refl 11) ?_
  refine Tr.callVr (L := [3, 4, 5, 6, 7, 8, 9, 10, 11, 12, 13]) (hHN) dX5_tellHome_11 (kX5_123 (Nat.le_of_ble_eq_true rfl)) iX7_houseNamed rfl rfl rfl rfl rfl rfl rfl rfl rfl (Eq.refl 14) ?_
  refine Tr.istore_n (i := 2) dX5_tellHome_14 rfl rfl rfl (Eq.refl 15) ?_
  refine Tr.aload_n (i := 0) dX5_tellHome_15 rfl rfl (Eq.refl 16) ?_
  refine Tr.getf dX5_tellHome_16 fX5_22 rfl rfl (Eq.refl 19) ?_
  refine Tr.getf dX5_tellHome_19 fX5_37 rfl rfl (Eq.refl 22) ?_
  refine Tr.iconst (v := nI 1) dX5_tellHome_22 (icN 1) (Eq.refl 23) ?_
  refine Tr.icmp_eqN (tgt := 34) dX5_tellHome_23 (by decide) (Eq.refl 26) (by omega) (by omega) (fun h23 => ?_) (fun h23 => ?_)
  · rw [if_pos h23]
    refine Tr.iload_n (i := 2) dX5_tellHome_34 rfl rfl (Eq.refl 35) ?_
    refine Tr.iconst (v := (-1)) dX5_tellHome_35 (by decide +kernel) (Eq.refl 36) ?_
    refine Tr.icmp_ne (tgt := 47) dX5_tellHome_36 (by decide) (Eq.refl 39) (fun h36 => ?_) (fun h36 => ?_)
    · rw [cl_none] at h36
      have h36 : c < 5 := by omega
      rw [if_pos h36]
      rw [cl_lt h36]
      refine Tr.aload_n (i := 0) dX5_tellHome_47 rfl rfl (Eq.refl 48) ?_
      refine Tr.getf dX5_tellHome_48 fX5_12 rfl rfl (Eq.refl 51) ?_
      refine Tr.getf dX5_tellHome_51 fX5_127 rfl rfl (Eq.refl 54) ?_
      refine Tr.iload_n (i := 2) dX5_tellHome_54 rfl rfl (Eq.refl 55) ?_
      refine Tr.ialdN dX5_tellHome_55 rfl (by omega) (by decide) (Eq.refl 56) ?_
      refine Tr.iconst (v := (-1)) dX5_tellHome_56 (by decide +kernel) (Eq.refl 57) ?_
      refine Tr.icmp_eq (tgt := 68) dX5_tellHome_57 (by decide) (Eq.refl 60) (fun h57 => ?_) (fun h57 => ?_)
      · rw [cl_none] at h57
        rw [if_neg h57]
        refine Tr.aload_n (i := 0) dX5_tellHome_68 rfl rfl (Eq.refl 69) ?_
        refine Tr.getf dX5_tellHome_69 fX5_12 rfl rfl (Eq.refl 72) ?_
        refine Tr.getf dX5_tellHome_72 fX5_127 rfl rfl (Eq.refl 75) ?_
        refine Tr.iload_n (i := 2) dX5_tellHome_75 rfl rfl (Eq.refl 76) ?_
        refine Tr.iload_n (i := 1) dX5_tellHome_76 rfl rfl (Eq.refl 77) ?_
        refine Tr.iastN dX5_tellHome_77 rfl (by omega) (by decide) (Eq.refl 78) ?_
        refine Tr.aload_n (i := 0) dX5_tellHome_78 rfl rfl (Eq.refl 79) ?_
        refine Tr.getf dX5_tellHome_79 fX5_12 rfl rfl (Eq.refl 82) ?_
        refine Tr.getf dX5_tellHome_82 fX5_130 rfl rfl (Eq.refl 85) ?_
        refine Tr.iload_n (i := 1) dX5_tellHome_85 rfl rfl (Eq.refl 86) ?_
        refine Tr.iload_n (i := 2) dX5_tellHome_86 rfl rfl (Eq.refl 87) ?_
        refine Tr.iastN dX5_tellHome_87 rfl (by omega) (by decide) (Eq.refl 88) ?_
        refine Tr.pic (w' := (tlC E ad len T p.1 (vOw V (upN (owV V) c q) (upN (hoV V) q c)) X f pl)) (by unfold tlC viC vOw; rw [show (fun k => cl (owV (nhV V, npV V, laV V, ruV V, woV V, upN (owV V) c q, upN (hoV V) q c, wkV V, tiV V) k)) = upd (fun k => cl (owV V k)) c (nI q) from by rw [← cl_lt hq]; exact cl_upN _ _ _, show (fun k => cl (hoV (nhV V, npV V, laV V, ruV V, woV V, upN (owV V) c q, upN (hoV V) q c, wkV V, tiV V) k)) = upd (fun k => cl (hoV V k)) q (nI c) from by rw [← cl_lt h36]; exact cl_upN _ _ _]; rfl) ?_
        refine Tr.aload_n (i := 0) dX5_tellHome_88 rfl rfl (Eq.refl 89) ?_
        refine Tr.getf dX5_tellHome_89 fX5_22 rfl rfl (Eq.refl 92) ?_
        refine Tr.callV (L := [1, 2]) (t_readToken E _ len (tkE T len p.1) (tkK T len p.1) (tkS T len p.1) (tkN T len p.1) (tkM T len p.1) T hl hT (tkE_le T (Nat.le_of_lt_succ p.2)).2) dX5_tellHome_92 (kX5_80 (Nat.le_of_ble_eq_true rfl)) iX4_readToken rfl rfl rfl rfl rfl rfl rfl rfl rfl rfl (Eq.refl 95) ?_
        refine Tr.pic (w' := tlC E ad len T (nxP T len p).1 (vOw V (upN (owV V) c q) (upN (hoV V) q c)) X f pl) (putB_eq (Lc := [0, 3, 4, 5, 6, 7, 8, 9, 10, 11, 12, 13]) 14 rfl rfl rfl rfl ⟨⟨_, rfl, rfl⟩, ⟨_, rfl, rfl⟩, ⟨_, rfl, rfl⟩, ⟨_, rfl, rfl⟩, ⟨_, rfl, rfl⟩, ⟨_, rfl, rfl⟩, ⟨_, rfl, rfl⟩, ⟨_, rfl, rfl⟩, ⟨_, rfl, rfl⟩, ⟨_, rfl, rfl⟩, ⟨_, rfl, rfl⟩, ⟨_, rfl, rfl⟩, trivial⟩ (by decide) rfl) ?_
        refine Tr.ret dX5_tellHome_95 rfl rfl ?_
        · rfl
      · rw [cl_none] at h57
        rw [if_pos (by omega)]
        refine Tr.aload_n (i := 0) dX5_tellHome_60 rfl rfl (Eq.refl 61) ?_
        refine Tr.iconst (v := nI 3) dX5_tellHome_61 (icN 3) (Eq.refl 62) ?_
        refine Tr.callVs (l_blame E ad len T p V X f pl 3) dX5_tellHome_62 (kX5_73 (Nat.le_of_ble_eq_true rfl)) iX5_blame rfl rfl rfl rfl rfl (tl_len) rfl rfl (Eq.refl 65) ?_
        refine Tr.goto (pc' := 95) dX5_tellHome_65 (by decide) ?_
        refine Tr.ret dX5_tellHome_95 rfl rfl ?_
        · rfl
    · rw [cl_none] at h36
      rw [if_neg h36]
      refine Tr.aload_n (i := 0) dX5_tellHome_39 rfl rfl (Eq.refl 40) ?_
      refine Tr.iconst (v := nI 5) dX5_tellHome_40 (icN 5) (Eq.refl 41) ?_
      refine Tr.callVs (l_blame E ad len T p V X f pl 5) dX5_tellHome_41 (kX5_73 (Nat.le_of_ble_eq_true rfl)) iX5_blame rfl rfl rfl rfl rfl (tl_len) rfl rfl (Eq.refl 44) ?_
      refine Tr.goto (pc' := 95) dX5_tellHome_44 (by decide) ?_
      refine Tr.ret dX5_tellHome_95 rfl rfl ?_
      · rfl
  · rw [if_neg h23]
    refine Tr.aload_n (i := 0) dX5_tellHome_26 rfl rfl (Eq.refl 27) ?_
    refine Tr.iconst (v := nI 1) dX5_tellHome_27 (icN 1) (Eq.refl 28) ?_
    refine Tr.callVs (l_blame E ad len T p V X f pl 1) dX5_tellHome_28 (kX5_73 (Nat.le_of_ble_eq_true rfl)) iX5_blame rfl rfl rfl rfl rfl (tl_len) rfl rfl (Eq.refl 31) ?_
    refine Tr.goto (pc' := 95) dX5_tellHome_31 (by decide) ?_
    refine Tr.ret dX5_tellHome_95 rfl rfl ?_
    · rfl
