/-! Teller: work, ties, homes, persons, houses -/
theorem rdP_s (T : Nat → Nat) {len : Nat} (z : Tlt len) : (rdP T z).2.2.1 = z.2.1 ∧ (rdP T z).2.2.2.1 = z.2.2.1 ∧ (z.2.2.2.1 < 6 → (rdP T z).2.2.2.2.1 < 6) := by
  unfold rdP
  repeat' split
  all_goals exact ⟨rfl, rfl, fun h => by first | exact h | exact (show (5 : Nat) < 6 from by decide) | exact (show (1 : Nat) < 6 from by decide)⟩
theorem rdN_s (T : Nat → Nat) {len : Nat} (lo hi : Int32) (z : Tlt len) : (rdN T lo hi z).2.2.1 = z.2.1 ∧ (rdN T lo hi z).2.2.2.1 = z.2.2.1 ∧ (z.2.2.2.1 < 6 → (rdN T lo hi z).2.2.2.2.1 < 6) ∧ ((rdN T lo hi z).2.2.2.2.1 = 0 → z.2.2.2.1 = 0) := by
  unfold rdN
  repeat' split
  all_goals refine ⟨rfl, rfl, fun h => ?_, fun h => ?_⟩
  all_goals first | exact h | assumption | exact (show (1 : Nat) < 6 from by decide) | exact (show (2 : Nat) < 6 from by decide) | exact absurd h (show ¬ (1 : Nat) = 0 from by decide) | exact absurd h (show ¬ (2 : Nat) = 0 from by decide)
theorem rdP_0 (T : Nat → Nat) {len : Nat} (z : Tlt len) (hI : npV z.2.1 ≤ 5) (h : (rdP T z).2.2.2.2.1 = 0) : (rdP T z).1 < 5 := by
  have hl := fnd_lt z.2.2.1.2.2.2.2.2.2 (lN (tkM T len z.1.1)) (npV z.2.1) 0 (by omega)
  unfold rdP at h ⊢
  by_cases h0 : z.2.2.2.1 = 0
  · rw [if_pos h0] at h ⊢
    by_cases h1 : tkK T len z.1.1 = 1
    · rw [if_pos h1] at h ⊢
      by_cases h2 : fnd z.2.2.1.2.2.2.2.2.2 (lN (tkM T len z.1.1)) (npV z.2.1) 0 = 5
      · rw [if_pos h2] at h; exact absurd h (by show ¬ (5 : Nat) = 0; decide)
      · rw [if_neg h2]; show fnd _ _ _ _ < 5; omega
    · rw [if_neg h1] at h; exact absurd h (by show ¬ (1 : Nat) = 0; decide)
  · rw [if_neg h0] at h; exact absurd h h0
def vWk (V : Vil) (g : Nat → Int32) : Vil := (nhV V, npV V, laV V, ruV V, woV V, owV V, hoV V, g, tiV V)
def vTi (V : Vil) (g : Nat → Int32) : Vil := (nhV V, npV V, laV V, ruV V, woV V, owV V, hoV V, wkV V, g)
/-- behind the double's test: who, how many quarters -/
def tlW2 (T : Nat → Nat) {len : Nat} (z : Tlt len) : Tlt len := if (rdN T (nI 1) (nI 15) (rdP T z).2).2.2.2.2.1 = 0 then ((rdN T (nI 1) (nI 15) (rdP T z).2).2.1, vWk (rdN T (nI 1) (nI 15) (rdP T z).2).2.2.1 (upd (wkV (rdN T (nI 1) (nI 15) (rdP T z).2).2.2.1) (rdP T z).1 (nI (rdN T (nI 1) (nI 15) (rdP T z).2).1)), (rdN T (nI 1) (nI 15) (rdP T z).2).2.2.2) else (rdN T (nI 1) (nI 15) (rdP T z).2).2
def tlWk (T : Nat → Nat) {len : Nat} (z : Tlt len) : Tlt len := tlW2 T (if tkK T len (nxP T len z.1).1 = 1 ∧ fnd z.2.2.1.2.2.2.2.2.2 (lN (tkM T len (nxP T len z.1).1)) (npV z.2.1) 0 < 5 ∧ ¬ wkV z.2.1 (fnd z.2.2.1.2.2.2.2.2.2 (lN (tkM T len (nxP T len z.1).1)) (npV z.2.1) 0) = 0 then blm T (adv T z) 3 else adv T z)
theorem tlP_le {E E2 : EnvT} {ad ad2 : Nat → Nat} {len len2 : Nat} {T T2 : Nat → Nat} {z : Tlt len} {z2 : Tlt len2} : (tlP E ad len T z).length ≤ (tlP E2 ad2 len2 T2 z2).length := Nat.le_refl 14
theorem tlPC_le {E E2 : EnvT} {ad ad2 : Nat → Nat} {len len2 : Nat} {T T2 : Nat → Nat} {z : Tlt len} {p2 : Nat} {V2 : Vil} {X2 : Vix} {f2 : Nat} {pl2 : Int32} : (tlP E ad len T z).length ≤ (tlC E2 ad2 len2 T2 p2 V2 X2 f2 pl2).length := Nat.le_refl 14
set_option maxHeartbeats 4000000 in
set_option maxRecDepth 100000 in
theorem l_tellWork (E : EnvT) (ad : Nat → Nat) (len : Nat) (T : Nat → Nat) (z : Tlt len) (hl : len ≤ 900) (hT : ∀ k, k < 900 → T k < 256) (hI : nhV z.2.1 ≤ 5 ∧ npV z.2.1 ≤ 5) (hf : z.2.2.2.1 < 6) : Md E mX5_tellWork ad [.ref (ad 0)] (tlP E ad len T z) none (tlP E ad len T (tlWk T z)) := by
  obtain ⟨p, V, X, f, pl⟩ := z
  have hf : f < 6 := hf
  have hn : npV V ≤ 5 := hI.2
  have hI : nhV V ≤ 5 ∧ npV V ≤ 5 := hI
  have hx : tlWk T (p, V, X, f, pl) = tlW2 T (if tkK T len (nxP T len p).1 = 1 ∧ fnd X.2.2.2.2.2.2 (lN (tkM T len (nxP T len p).1)) (npV V) 0 < 5 ∧ ¬ wkV V (fnd X.2.2.2.2.2.2 (lN (tkM T len (nxP T len p).1)) (npV V) 0) = 0 then (nxP T len p, V, X, 3, nI (tkS T len (nxP T len p).1)) else (nxP T len p, V, X, f, pl)) := rfl
  rw [hx]
  clear hx
  have hk := tkK_lt T len (nxP T len p).1
  have hfl := fnd_lt X.2.2.2.2.2.2 (lN (tkM T len (nxP T len p).1)) (npV V) 0 (by omega)
  have hPN := v_personNamed E (adc ad [3, 4, 5, 6, 7, 8, 9, 10, 11, 12, 13] 14) V X (lN (tkM T len (nxP T len p).1)) hn
  generalize fnd X.2.2.2.2.2.2 (lN (tkM T len (nxP T len p).1)) (npV V) 0 = c at *
  show Md E _ ad _ (tlC E ad len T p.1 V X f pl) _ _
  refine Md.of 3 (by decide) rfl rfl ?_
  refine Tr.aload_n (i := 0) dX5_tellWork_0 rfl rfl (Eq.refl 1) ?_
  refine Tr.getf dX5_tellWork_1 fX5_22 rfl rfl (Eq.refl 4) ?_
  refine Tr.callV (L := [1, 2]) (t_readToken E _ len (tkE T len p.1) (tkK T len p.1) (tkS T len p.1) (tkN T len p.1) (tkM T len p.1) T hl hT (tkE_le T (Nat.le_of_lt_succ p.2)).2) dX5_tellWork_4 (kX5_80 (Nat.le_of_ble_eq_true rfl)) iX4_readToken rfl rfl rfl rfl rfl rfl rfl rfl rfl rfl (Eq.refl 7) ?_
  refine Tr.pic (w' := tlC E ad len T (nxP T len p).1 V X f pl) (putB_eq (Lc := [0, 3, 4, 5, 6, 7, 8, 9, 10, 11, 12, 13]) 14 rfl rfl rfl rfl ⟨⟨_, rfl, rfl⟩, ⟨_, rfl, rfl⟩, ⟨_, rfl, rfl⟩, ⟨_, rfl, rfl⟩, ⟨_, rfl, rfl⟩, ⟨_, rfl, rfl⟩, ⟨_, rfl, rfl⟩, ⟨_, rfl, rfl⟩, ⟨_, rfl, rfl⟩, ⟨_, rfl, rfl⟩, ⟨_, rfl, rfl⟩, ⟨_, rfl, rfl⟩, trivial⟩ (by decide) rfl) ?_
  refine Tr.aload_n (i := 0) dX5_tellWork_7 rfl rfl (Eq.refl 8) ?_
  refine Tr.getf dX5_tellWork_8 fX5_12 rfl rfl (Eq.refl 11) ?_
  refine Tr.aload_n (i := 0) dX5_tellWork_11 rfl rfl (Eq.refl 12) ?_
  refine Tr.getf dX5_tellWork_12 fX5_22 rfl rfl (Eq.refl 15) ?_
  refine Tr.getf dX5_tellWork_15 fX5_119 rfl rfl (Eq.refl 18) ?_
  refine Tr.callVr (L := [3, 4, 5, 6, 7, 8, 9, 10, 11, 12, 13]) (hPN) dX5_tellWork_18 (kX5_147 (Nat.le_of_ble_eq_true rfl)) iX7_personNamed rfl rfl rfl rfl rfl rfl rfl rfl rfl (Eq.refl 21) ?_
  refine Tr.istore_n (i := 1) dX5_tellWork_21 rfl rfl rfl (Eq.refl 22) ?_
  refine Tr.aload_n (i := 0) dX5_tellWork_22 rfl rfl (Eq.refl 23) ?_
  refine Tr.getf dX5_tellWork_23 fX5_22 rfl rfl (Eq.refl 26) ?_
  refine Tr.getf dX5_tellWork_26 fX5_37 rfl rfl (Eq.refl 29) ?_
  refine Tr.iconst (v := nI 1) dX5_tellWork_29 (icN 1) (Eq.refl 30) ?_
  refine Tr.icmp_neN (tgt := 55) dX5_tellWork_30 (by decide) (Eq.refl 33) (by omega) (by omega) (fun h30 => ?_) (fun h30 => ?_)
  · rw [if_neg (fun z9 => h30 z9.1)]
    obtain ⟨z2, hz2⟩ : ∃ z2 : Tlt len, z2 = (nxP T len p, V, X, f, pl) := ⟨_, rfl⟩
    have hI2 : nhV z2.2.1 ≤ 5 ∧ npV z2.2.1 ≤ 5 := by rw [hz2]; exact hI
    have hf2 : z2.2.2.2.1 < 6 := by rw [hz2]; first | exact hf | exact (show (3 : Nat) < 6 from by decide)
    refine Tr.pic (w' := tlP E ad len T z2) (by rw [hz2]; rfl) ?_
    rw [← hz2]
    clear hz2
    have hP := l_readPerson E ad len T z2 hl hT hI2 hf2
    obtain ⟨s1, s2, s3⟩ := rdP_s T z2
    have s0 := rdP_0 T z2 hI2.2
    have hN := l_readNumber E ad len T (nI 1) (nI 15) (rdP T z2).2 hl hT (s3 hf2)
    obtain ⟨u1, u2, u3, u4⟩ := rdN_s T (nI 1) (nI 15) (rdP T z2).2
    have hW : tlW2 T z2 = if (rdN T (nI 1) (nI 15) (rdP T z2).2).2.2.2.2.1 = 0 then ((rdN T (nI 1) (nI 15) (rdP T z2).2).2.1, vWk (rdN T (nI 1) (nI 15) (rdP T z2).2).2.2.1 (upd (wkV (rdN T (nI 1) (nI 15) (rdP T z2).2).2.2.1) (rdP T z2).1 (nI (rdN T (nI 1) (nI 15) (rdP T z2).2).1)), (rdN T (nI 1) (nI 15) (rdP T z2).2).2.2.2) else (rdN T (nI 1) (nI 15) (rdP T z2).2).2 := rfl
    rw [hW]
    clear hW
    have u5 := u3 (s3 hf2)
    have s5 := fun h => s0 (u4 h)
    clear s0 s1 s2 s3 u1 u2 u3 u4
    generalize rdN T (nI 1) (nI 15) (rdP T z2).2 = N at *
    generalize rdP T z2 = R at *
    obtain ⟨n, pN, VN, XN, fN, plN⟩ := N
    have hN : Md E _ ad _ _ _ (tlC E ad len T pN.1 VN XN fN plN) := hN
    have u6 : fN < 6 := u5
    refine Tr.aload_n (i := 0) dX5_tellWork_55 rfl rfl (Eq.refl 56) ?_
    refine Tr.callVs (hP) dX5_tellWork_56 (kX5_133 (Nat.le_of_ble_eq_true rfl)) iX5_readPerson rfl rfl rfl rfl rfl (tlP_le) rfl rfl (Eq.refl 59) ?_
    refine Tr.istore_n (i := 2) dX5_tellWork_59 rfl rfl rfl (Eq.refl 60) ?_
    refine Tr.aload_n (i := 0) dX5_tellWork_60 rfl rfl (Eq.refl 61) ?_
    refine Tr.iconst (v := nI 1) dX5_tellWork_61 (icN 1) (Eq.refl 62) ?_
    refine Tr.bipush (v := nI 15) dX5_tellWork_62 (by decide +kernel) (Eq.refl 64) ?_
    refine Tr.callVs (hN) dX5_tellWork_64 (kX5_98 (Nat.le_of_ble_eq_true rfl)) iX5_readNumber rfl rfl rfl rfl rfl (tlPC_le) rfl rfl (Eq.refl 67) ?_
    refine Tr.pic (w' := (tlC E ad len T pN.1 VN XN fN plN)) rfl ?_
    refine Tr.istore_n (i := 3) dX5_tellWork_67 rfl rfl rfl (Eq.refl 68) ?_
    refine Tr.aload_n (i := 0) dX5_tellWork_68 rfl rfl (Eq.refl 69) ?_
    refine Tr.getf dX5_tellWork_69 fX5_26 rfl rfl (Eq.refl 72) ?_
    refine Tr.if_ne (tgt := 85) dX5_tellWork_72 (by decide) (Eq.refl 75) (fun h72 => ?_) (fun h72 => ?_)
    · rw [if_neg (fun z9 => h72 (show nI fN = 0 by rw [show fN = 0 from z9]; rfl))]
      refine Tr.ret dX5_tellWork_85 rfl rfl ?_
      · rfl
    · have h72 : fN = 0 := (nI_eq_iff (b := 0) (by omega) (by decide)).mp h72
      have hr := s5 h72
      rw [if_pos h72]
      rw [cl_lt hr]
      refine Tr.aload_n (i := 0) dX5_tellWork_75 rfl rfl (Eq.refl 76) ?_
      refine Tr.getf dX5_tellWork_76 fX5_12 rfl rfl (Eq.refl 79) ?_
      refine Tr.getf dX5_tellWork_79 fX5_150 rfl rfl (Eq.refl 82) ?_
      refine Tr.iload_n (i := 2) dX5_tellWork_82 rfl rfl (Eq.refl 83) ?_
      refine Tr.iload_n (i := 3) dX5_tellWork_83 rfl rfl (Eq.refl 84) ?_
      refine Tr.iastN dX5_tellWork_84 rfl (by omega) (by decide) (Eq.refl 85) ?_
      refine Tr.ret dX5_tellWork_85 rfl rfl ?_
      · rfl
  · refine Tr.iload_n (i := 1) dX5_tellWork_33 rfl rfl (Eq.refl 34) ?_
    refine Tr.iconst (v := (-1)) dX5_tellWork_34 (by decide +kernel) (Eq.refl 35) ?_
    refine Tr.icmp_eq (tgt := 55) dX5_tellWork_35 (by decide) (Eq.refl 38) (fun h35 => ?_) (fun h35 => ?_)
    · rw [cl_none] at h35
      rw [if_neg (fun z9 => absurd z9.2.1 (by omega))]
      obtain ⟨z2, hz2⟩ : ∃ z2 : Tlt len, z2 = (nxP T len p, V, X, f, pl) := ⟨_, rfl⟩
      have hI2 : nhV z2.2.1 ≤ 5 ∧ npV z2.2.1 ≤ 5 := by rw [hz2]; exact hI
      have hf2 : z2.2.2.2.1 < 6 := by rw [hz2]; first | exact hf | exact (show (3 : Nat) < 6 from by decide)
      refine Tr.pic (w' := tlP E ad len T z2) (by rw [hz2]; rfl) ?_
      rw [← hz2]
      clear hz2
      have hP := l_readPerson E ad len T z2 hl hT hI2 hf2
      obtain ⟨s1, s2, s3⟩ := rdP_s T z2
      have s0 := rdP_0 T z2 hI2.2
      have hN := l_readNumber E ad len T (nI 1) (nI 15) (rdP T z2).2 hl hT (s3 hf2)
      obtain ⟨u1, u2, u3, u4⟩ := rdN_s T (nI 1) (nI 15) (rdP T z2).2
      have hW : tlW2 T z2 = if (rdN T (nI 1) (nI 15) (rdP T z2).2).2.2.2.2.1 = 0 then ((rdN T (nI 1) (nI 15) (rdP T z2).2).2.1, vWk (rdN T (nI 1) (nI 15) (rdP T z2).2).2.2.1 (upd (wkV (rdN T (nI 1) (nI 15) (rdP T z2).2).2.2.1) (rdP T z2).1 (nI (rdN T (nI 1) (nI 15) (rdP T z2).2).1)), (rdN T (nI 1) (nI 15) (rdP T z2).2).2.2.2) else (rdN T (nI 1) (nI 15) (rdP T z2).2).2 := rfl
      rw [hW]
      clear hW
      have u5 := u3 (s3 hf2)
      have s5 := fun h => s0 (u4 h)
      clear s0 s1 s2 s3 u1 u2 u3 u4
      generalize rdN T (nI 1) (nI 15) (rdP T z2).2 = N at *
      generalize rdP T z2 = R at *
      obtain ⟨n, pN, VN, XN, fN, plN⟩ := N
      have hN : Md E _ ad _ _ _ (tlC E ad len T pN.1 VN XN fN plN) := hN
      have u6 : fN < 6 := u5
      refine Tr.aload_n (i := 0) dX5_tellWork_55 rfl rfl (Eq.refl 56) ?_
      refine Tr.callVs (hP) dX5_tellWork_56 (kX5_133 (Nat.le_of_ble_eq_true rfl)) iX5_readPerson rfl rfl rfl rfl rfl (tlP_le) rfl rfl (Eq.refl 59) ?_
      refine Tr.istore_n (i := 2) dX5_tellWork_59 rfl rfl rfl (Eq.refl 60) ?_
      refine Tr.aload_n (i := 0) dX5_tellWork_60 rfl rfl (Eq.refl 61) ?_
      refine Tr.iconst (v := nI 1) dX5_tellWork_61 (icN 1) (Eq.refl 62) ?_
      refine Tr.bipush (v := nI 15) dX5_tellWork_62 (by decide +kernel) (Eq.refl 64) ?_
      refine Tr.callVs (hN) dX5_tellWork_64 (kX5_98 (Nat.le_of_ble_eq_true rfl)) iX5_readNumber rfl rfl rfl rfl rfl (tlPC_le) rfl rfl (Eq.refl 67) ?_
      refine Tr.pic (w' := (tlC E ad len T pN.1 VN XN fN plN)) rfl ?_
      refine Tr.istore_n (i := 3) dX5_tellWork_67 rfl rfl rfl (Eq.refl 68) ?_
      refine Tr.aload_n (i := 0) dX5_tellWork_68 rfl rfl (Eq.refl 69) ?_
      refine Tr.getf dX5_tellWork_69 fX5_26 rfl rfl (Eq.refl 72) ?_
      refine Tr.if_ne (tgt := 85) dX5_tellWork_72 (by decide) (Eq.refl 75) (fun h72 => ?_) (fun h72 => ?_)
      · rw [if_neg (fun z9 => h72 (show nI fN = 0 by rw [show fN = 0 from z9]; rfl))]
        refine Tr.ret dX5_tellWork_85 rfl rfl ?_
        · rfl
      · have h72 : fN = 0 := (nI_eq_iff (b := 0) (by omega) (by decide)).mp h72
        have hr := s5 h72
        rw [if_pos h72]
        rw [cl_lt hr]
        refine Tr.aload_n (i := 0) dX5_tellWork_75 rfl rfl (Eq.refl 76) ?_
        refine Tr.getf dX5_tellWork_76 fX5_12 rfl rfl (Eq.refl 79) ?_
        refine Tr.getf dX5_tellWork_79 fX5_150 rfl rfl (Eq.refl 82) ?_
        refine Tr.iload_n (i := 2) dX5_tellWork_82 rfl rfl (Eq.refl 83) ?_
        refine Tr.iload_n (i := 3) dX5_tellWork_83 rfl rfl (Eq.refl 84) ?_
        refine Tr.iastN dX5_tellWork_84 rfl (by omega) (by decide) (Eq.refl 85) ?_
        refine Tr.ret dX5_tellWork_85 rfl rfl ?_
        · rfl
    · rw [cl_none] at h35
      have h35 : c < 5 := by omega
      rw [cl_lt h35]
      refine Tr.aload_n (i := 0) dX5_tellWork_38 rfl rfl (Eq.refl 39) ?_
      refine Tr.getf dX5_tellWork_39 fX5_12 rfl rfl (Eq.refl 42) ?_
      refine Tr.getf dX5_tellWork_42 fX5_150 rfl rfl (Eq.refl 45) ?_
      refine Tr.iload_n (i := 1) dX5_tellWork_45 rfl rfl (Eq.refl 46) ?_
      refine Tr.ialdN dX5_tellWork_46 rfl (by omega) (by decide) (Eq.refl 47) ?_
      refine Tr.if_eq (tgt := 55) dX5_tellWork_47 (by decide) (Eq.refl 50) (fun h47 => ?_) (fun h47 => ?_)
      · rw [if_neg (fun z9 => z9.2.2 h47)]
        obtain ⟨z2, hz2⟩ : ∃ z2 : Tlt len, z2 = (nxP T len p, V, X, f, pl) := ⟨_, rfl⟩
        have hI2 : nhV z2.2.1 ≤ 5 ∧ npV z2.2.1 ≤ 5 := by rw [hz2]; exact hI
        have hf2 : z2.2.2.2.1 < 6 := by rw [hz2]; first | exact hf | exact (show (3 : Nat) < 6 from by decide)
        refine Tr.pic (w' := tlP E ad len T z2) (by rw [hz2]; rfl) ?_
        rw [← hz2]
        clear hz2
        have hP := l_readPerson E ad len T z2 hl hT hI2 hf2
        obtain ⟨s1, s2, s3⟩ := rdP_s T z2
        have s0 := rdP_0 T z2 hI2.2
        have hN := l_readNumber E ad len T (nI 1) (nI 15) (rdP T z2).2 hl hT (s3 hf2)
        obtain ⟨u1, u2, u3, u4⟩ := rdN_s T (nI 1) (nI 15) (rdP T z2).2
        have hW : tlW2 T z2 = if (rdN T (nI 1) (nI 15) (rdP T z2).2).2.2.2.2.1 = 0 then ((rdN T (nI 1) (nI 15) (rdP T z2).2).2.1, vWk (rdN T (nI 1) (nI 15) (rdP T z2).2).2.2.1 (upd (wkV (rdN T (nI 1) (nI 15) (rdP T z2).2).2.2.1) (rdP T z2).1 (nI (rdN T (nI 1) (nI 15) (rdP T z2).2).1)), (rdN T (nI 1) (nI 15) (rdP T z2).2).2.2.2) else (rdN T (nI 1) (nI 15) (rdP T z2).2).2 := rfl
        rw [hW]
        clear hW
        have u5 := u3 (s3 hf2)
        have s5 := fun h => s0 (u4 h)
        clear s0 s1 s2 s3 u1 u2 u3 u4
        generalize rdN T (nI 1) (nI 15) (rdP T z2).2 = N at *
        generalize rdP T z2 = R at *
        obtain ⟨n, pN, VN, XN, fN, plN⟩ := N
        have hN : Md E _ ad _ _ _ (tlC E ad len T pN.1 VN XN fN plN) := hN
        have u6 : fN < 6 := u5
        refine Tr.aload_n (i := 0) dX5_tellWork_55 rfl rfl (Eq.refl 56) ?_
        refine Tr.callVs (hP) dX5_tellWork_56 (kX5_133 (Nat.le_of_ble_eq_true rfl)) iX5_readPerson rfl rfl rfl rfl rfl (tlP_le) rfl rfl (Eq.refl 59) ?_
        refine Tr.istore_n (i := 2) dX5_tellWork_59 rfl rfl rfl (Eq.refl 60) ?_
        refine Tr.aload_n (i := 0) dX5_tellWork_60 rfl rfl (Eq.refl 61) ?_
        refine Tr.iconst (v := nI 1) dX5_tellWork_61 (icN 1) (Eq.refl 62) ?_
        refine Tr.bipush (v := nI 15) dX5_tellWork_62 (by decide +kernel) (Eq.refl 64) ?_
        refine Tr.callVs (hN) dX5_tellWork_64 (kX5_98 (Nat.le_of_ble_eq_true rfl)) iX5_readNumber rfl rfl rfl rfl rfl (tlPC_le) rfl rfl (Eq.refl 67) ?_
        refine Tr.pic (w' := (tlC E ad len T pN.1 VN XN fN plN)) rfl ?_
        refine Tr.istore_n (i := 3) dX5_tellWork_67 rfl rfl rfl (Eq.refl 68) ?_
        refine Tr.aload_n (i := 0) dX5_tellWork_68 rfl rfl (Eq.refl 69) ?_
        refine Tr.getf dX5_tellWork_69 fX5_26 rfl rfl (Eq.refl 72) ?_
        refine Tr.if_ne (tgt := 85) dX5_tellWork_72 (by decide) (Eq.refl 75) (fun h72 => ?_) (fun h72 => ?_)
        · rw [if_neg (fun z9 => h72 (show nI fN = 0 by rw [show fN = 0 from z9]; rfl))]
          refine Tr.ret dX5_tellWork_85 rfl rfl ?_
          · rfl
        · have h72 : fN = 0 := (nI_eq_iff (b := 0) (by omega) (by decide)).mp h72
          have hr := s5 h72
          rw [if_pos h72]
          rw [cl_lt hr]
          refine Tr.aload_n (i := 0) dX5_tellWork_75 rfl rfl (Eq.refl 76) ?_
          refine Tr.getf dX5_tellWork_76 fX5_12 rfl rfl (Eq.refl 79) ?_
          refine Tr.getf dX5_tellWork_79 fX5_150 rfl rfl (Eq.refl 82) ?_
          refine Tr.iload_n (i := 2) dX5_tellWork_82 rfl rfl (Eq.refl 83) ?_
          refine Tr.iload_n (i := 3) dX5_tellWork_83 rfl rfl (Eq.refl 84) ?_
          refine Tr.iastN dX5_tellWork_84 rfl (by omega) (by decide) (Eq.refl 85) ?_
          refine Tr.ret dX5_tellWork_85 rfl rfl ?_
          · rfl
      · rw [if_pos ⟨h30, h35, h47⟩]
        refine Tr.aload_n (i := 0) dX5_tellWork_50 rfl rfl (Eq.refl 51) ?_
        refine Tr.iconst (v := nI 3) dX5_tellWork_51 (icN 3) (Eq.refl 52) ?_
        refine Tr.callVs (l_blame E ad len T (nxP T len p) V X f pl 3) dX5_tellWork_52 (kX5_73 (Nat.le_of_ble_eq_true rfl)) iX5_blame rfl rfl rfl rfl rfl (tl_len) rfl rfl (Eq.refl 55) ?_
        obtain ⟨z2, hz2⟩ : ∃ z2 : Tlt len, z2 = (nxP T len p, V, X, 3, nI (tkS T len (nxP T len p).1)) := ⟨_, rfl⟩
        have hI2 : nhV z2.2.1 ≤ 5 ∧ npV z2.2.1 ≤ 5 := by rw [hz2]; exact hI
        have hf2 : z2.2.2.2.1 < 6 := by rw [hz2]; first | exact hf | exact (show (3 : Nat) < 6 from by decide)
        refine Tr.pic (w' := tlP E ad len T z2) (by rw [hz2]; rfl) ?_
        rw [← hz2]
        clear hz2
        have hP := l_readPerson E ad len T z2 hl hT hI2 hf2
        obtain ⟨s1, s2, s3⟩ := rdP_s T z2
        have s0 := rdP_0 T z2 hI2.2
        have hN := l_readNumber E ad len T (nI 1) (nI 15) (rdP T z2).2 hl hT (s3 hf2)
        obtain ⟨u1, u2, u3, u4⟩ := rdN_s T (nI 1) (nI 15) (rdP T z2).2
        have hW : tlW2 T z2 = if (rdN T (nI 1) (nI 15) (rdP T z2).2).2.2.2.2.1 = 0 then ((rdN T (nI 1) (nI 15) (rdP T z2).2).2.1, vWk (rdN T (nI 1) (nI 15) (rdP T z2).2).2.2.1 (upd (wkV (rdN T (nI 1) (nI 15) (rdP T z2).2).2.2.1) (rdP T z2).1 (nI (rdN T (nI 1) (nI 15) (rdP T z2).2).1)), (rdN T (nI 1) (nI 15) (rdP T z2).2).2.2.2) else (rdN T (nI 1) (nI 15) (rdP T z2).2).2 := rfl
        rw [hW]
        clear hW
        have u5 := u3 (s3 hf2)
        have s5 := fun h => s0 (u4 h)
        clear s0 s1 s2 s3 u1 u2 u3 u4
        generalize rdN T (nI 1) (nI 15) (rdP T z2).2 = N at *
        generalize rdP T z2 = R at *
        obtain ⟨n, pN, VN, XN, fN, plN⟩ := N
        have hN : Md E _ ad _ _ _ (tlC E ad len T pN.1 VN XN fN plN) := hN
        have u6 : fN < 6 := u5
        refine Tr.aload_n (i := 0) dX5_tellWork_55 rfl rfl (Eq.refl 56) ?_
        refine Tr.callVs (hP) dX5_tellWork_56 (kX5_133 (Nat.le_of_ble_eq_true rfl)) iX5_readPerson rfl rfl rfl rfl rfl (tlP_le) rfl rfl (Eq.refl 59) ?_
        refine Tr.istore_n (i := 2) dX5_tellWork_59 rfl rfl rfl (Eq.refl 60) ?_
        refine Tr.aload_n (i := 0) dX5_tellWork_60 rfl rfl (Eq.refl 61) ?_
        refine Tr.iconst (v := nI 1) dX5_tellWork_61 (icN 1) (Eq.refl 62) ?_
        refine Tr.bipush (v := nI 15) dX5_tellWork_62 (by decide +kernel) (Eq.refl 64) ?_
        refine Tr.callVs (hN) dX5_tellWork_64 (kX5_98 (Nat.le_of_ble_eq_true rfl)) iX5_readNumber rfl rfl rfl rfl rfl (tlPC_le) rfl rfl (Eq.refl 67) ?_
        refine Tr.pic (w' := (tlC E ad len T pN.1 VN XN fN plN)) rfl ?_
        refine Tr.istore_n (i := 3) dX5_tellWork_67 rfl rfl rfl (Eq.refl 68) ?_
        refine Tr.aload_n (i := 0) dX5_tellWork_68 rfl rfl (Eq.refl 69) ?_
        refine Tr.getf dX5_tellWork_69 fX5_26 rfl rfl (Eq.refl 72) ?_
        refine Tr.if_ne (tgt := 85) dX5_tellWork_72 (by decide) (Eq.refl 75) (fun h72 => ?_) (fun h72 => ?_)
        · rw [if_neg (fun z9 => h72 (show nI fN = 0 by rw [show fN = 0 from z9]; rfl))]
          refine Tr.ret dX5_tellWork_85 rfl rfl ?_
          · rfl
        · have h72 : fN = 0 := (nI_eq_iff (b := 0) (by omega) (by decide)).mp h72
          have hr := s5 h72
          rw [if_pos h72]
          rw [cl_lt hr]
          refine Tr.aload_n (i := 0) dX5_tellWork_75 rfl rfl (Eq.refl 76) ?_
          refine Tr.getf dX5_tellWork_76 fX5_12 rfl rfl (Eq.refl 79) ?_
          refine Tr.getf dX5_tellWork_79 fX5_150 rfl rfl (Eq.refl 82) ?_
          refine Tr.iload_n (i := 2) dX5_tellWork_82 rfl rfl (Eq.refl 83) ?_
          refine Tr.iload_n (i := 3) dX5_tellWork_83 rfl rfl (Eq.refl 84) ?_
          refine Tr.iastN dX5_tellWork_84 rfl (by omega) (by decide) (Eq.refl 85) ?_
          refine Tr.ret dX5_tellWork_85 rfl rfl ?_
          · rfl
        skip
